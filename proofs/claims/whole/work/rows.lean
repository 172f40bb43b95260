section
-- ===== PART A: goes FIRST, ahead of the names: the tables' words, and 'selects' of the private methods out of them =====
/-- a private method of a class that the tables say can be made, by its rows of tables_1 -/
def lw_okq (q : MethodName × Nat) : Prop := (q.1.cls ≠ "java/lang/invoke/MethodHandle" ∧ q.1.cls ≠ "java/lang/invoke/VarHandle") ∧ Cond.instantiable q.1.cls q.2 ∈ tables_1 ∧ Cond.privateMethod q.1 ∈ tables_1 ∧ Cond.instanceMethod q.1 ∈ tables_1
theorem lw_p0 : lw_okq (⟨"ShodForTheRoad$Roads", "reckonSteps", "()V"⟩, 2) := ⟨⟨by decide +kernel, by decide +kernel⟩, List.mem_of_getElem? (i := 25) (by decide +kernel), List.mem_of_getElem? (i := 31) (by decide +kernel), List.mem_of_getElem? (i := 32) (by decide +kernel)⟩
theorem lw_p1 : lw_okq (⟨"ShodForTheRoad", "refuse", "(I)I"⟩, 14) := ⟨⟨by decide +kernel, by decide +kernel⟩, List.mem_of_getElem? (i := 11) (by decide +kernel), List.mem_of_getElem? (i := 180) (by decide +kernel), List.mem_of_getElem? (i := 181) (by decide +kernel)⟩
theorem lw_p2 : lw_okq (⟨"ShodForTheRoad$Telling", "firstUnfit", "()I"⟩, 2) := ⟨⟨by decide +kernel, by decide +kernel⟩, List.mem_of_getElem? (i := 118) (by decide +kernel), List.mem_of_getElem? (i := 216) (by decide +kernel), List.mem_of_getElem? (i := 217) (by decide +kernel)⟩
theorem lw_p3 : lw_okq (⟨"ShodForTheRoad$Telling", "fits", "(II)Z"⟩, 2) := ⟨⟨by decide +kernel, by decide +kernel⟩, List.mem_of_getElem? (i := 118) (by decide +kernel), List.mem_of_getElem? (i := 220) (by decide +kernel), List.mem_of_getElem? (i := 221) (by decide +kernel)⟩
theorem lw_p4 : lw_okq (⟨"ShodForTheRoad$Telling", "signAt", "(I)I"⟩, 2) := ⟨⟨by decide +kernel, by decide +kernel⟩, List.mem_of_getElem? (i := 118) (by decide +kernel), List.mem_of_getElem? (i := 224) (by decide +kernel), List.mem_of_getElem? (i := 225) (by decide +kernel)⟩
theorem lw_p5 : lw_okq (⟨"ShodForTheRoad$Telling", "tellStatement", "(LShodForTheRoad$County;I)Z"⟩, 2) := ⟨⟨by decide +kernel, by decide +kernel⟩, List.mem_of_getElem? (i := 118) (by decide +kernel), List.mem_of_getElem? (i := 237) (by decide +kernel), List.mem_of_getElem? (i := 238) (by decide +kernel)⟩
theorem lw_p6 : lw_okq (⟨"ShodForTheRoad$Telling", "digitAt", "(I)I"⟩, 2) := ⟨⟨by decide +kernel, by decide +kernel⟩, List.mem_of_getElem? (i := 118) (by decide +kernel), List.mem_of_getElem? (i := 241) (by decide +kernel), List.mem_of_getElem? (i := 242) (by decide +kernel)⟩
theorem lw_p7 : lw_okq (⟨"ShodForTheRoad$Telling", "tellRider", "(LShodForTheRoad$County;I)Z"⟩, 2) := ⟨⟨by decide +kernel, by decide +kernel⟩, List.mem_of_getElem? (i := 118) (by decide +kernel), List.mem_of_getElem? (i := 254) (by decide +kernel), List.mem_of_getElem? (i := 255) (by decide +kernel)⟩
theorem lw_p8 : lw_okq (⟨"ShodForTheRoad", "thinkOf", "(I)V"⟩, 14) := ⟨⟨by decide +kernel, by decide +kernel⟩, List.mem_of_getElem? (i := 11) (by decide +kernel), List.mem_of_getElem? (i := 391) (by decide +kernel), List.mem_of_getElem? (i := 392) (by decide +kernel)⟩
theorem lw_p9 : lw_okq (⟨"ShodForTheRoad", "comesNow", "(II)I"⟩, 14) := ⟨⟨by decide +kernel, by decide +kernel⟩, List.mem_of_getElem? (i := 11) (by decide +kernel), List.mem_of_getElem? (i := 405) (by decide +kernel), List.mem_of_getElem? (i := 406) (by decide +kernel)⟩
theorem lw_p10 : lw_okq (⟨"ShodForTheRoad", "mindDaysWhereHeSays", "()J"⟩, 14) := ⟨⟨by decide +kernel, by decide +kernel⟩, List.mem_of_getElem? (i := 11) (by decide +kernel), List.mem_of_getElem? (i := 434) (by decide +kernel), List.mem_of_getElem? (i := 435) (by decide +kernel)⟩
theorem lw_p11 : lw_okq (⟨"ShodForTheRoad", "comesWithChange", "(IIII)I"⟩, 14) := ⟨⟨by decide +kernel, by decide +kernel⟩, List.mem_of_getElem? (i := 11) (by decide +kernel), List.mem_of_getElem? (i := 451) (by decide +kernel), List.mem_of_getElem? (i := 452) (by decide +kernel)⟩
theorem lw_p12 : lw_okq (⟨"ShodForTheRoad", "noteGuests", "(I)V"⟩, 14) := ⟨⟨by decide +kernel, by decide +kernel⟩, List.mem_of_getElem? (i := 11) (by decide +kernel), List.mem_of_getElem? (i := 465) (by decide +kernel), List.mem_of_getElem? (i := 466) (by decide +kernel)⟩
theorem lw_p13 : lw_okq (⟨"ShodForTheRoad", "totalWithBare", "(II)I"⟩, 14) := ⟨⟨by decide +kernel, by decide +kernel⟩, List.mem_of_getElem? (i := 11) (by decide +kernel), List.mem_of_getElem? (i := 518) (by decide +kernel), List.mem_of_getElem? (i := 519) (by decide +kernel)⟩
theorem lw_p14 : lw_okq (⟨"ShodForTheRoad", "costOfChoice", "(III)I"⟩, 14) := ⟨⟨by decide +kernel, by decide +kernel⟩, List.mem_of_getElem? (i := 11) (by decide +kernel), List.mem_of_getElem? (i := 531) (by decide +kernel), List.mem_of_getElem? (i := 532) (by decide +kernel)⟩
theorem lw_p15 : lw_okq (⟨"ShodForTheRoad", "refuseLong", "(I)J"⟩, 14) := ⟨⟨by decide +kernel, by decide +kernel⟩, List.mem_of_getElem? (i := 11) (by decide +kernel), List.mem_of_getElem? (i := 540) (by decide +kernel), List.mem_of_getElem? (i := 541) (by decide +kernel)⟩
def lw_privs_1 : List (MethodName × Nat) := [(⟨"ShodForTheRoad$Roads", "reckonSteps", "()V"⟩, 2), (⟨"ShodForTheRoad", "refuse", "(I)I"⟩, 14), (⟨"ShodForTheRoad$Telling", "firstUnfit", "()I"⟩, 2), (⟨"ShodForTheRoad$Telling", "fits", "(II)Z"⟩, 2), (⟨"ShodForTheRoad$Telling", "signAt", "(I)I"⟩, 2), (⟨"ShodForTheRoad$Telling", "tellStatement", "(LShodForTheRoad$County;I)Z"⟩, 2), (⟨"ShodForTheRoad$Telling", "digitAt", "(I)I"⟩, 2), (⟨"ShodForTheRoad$Telling", "tellRider", "(LShodForTheRoad$County;I)Z"⟩, 2), (⟨"ShodForTheRoad", "thinkOf", "(I)V"⟩, 14), (⟨"ShodForTheRoad", "comesNow", "(II)I"⟩, 14), (⟨"ShodForTheRoad", "mindDaysWhereHeSays", "()J"⟩, 14), (⟨"ShodForTheRoad", "comesWithChange", "(IIII)I"⟩, 14), (⟨"ShodForTheRoad", "noteGuests", "(I)V"⟩, 14), (⟨"ShodForTheRoad", "totalWithBare", "(II)I"⟩, 14), (⟨"ShodForTheRoad", "costOfChoice", "(III)I"⟩, 14), (⟨"ShodForTheRoad", "refuseLong", "(I)J"⟩, 14)]
theorem lw_r1 : ∀ q ∈ lw_privs_1, lw_okq q := List.forall_mem_cons.mpr ⟨lw_p0, List.forall_mem_cons.mpr ⟨lw_p1, List.forall_mem_cons.mpr ⟨lw_p2, List.forall_mem_cons.mpr ⟨lw_p3, List.forall_mem_cons.mpr ⟨lw_p4, List.forall_mem_cons.mpr ⟨lw_p5, List.forall_mem_cons.mpr ⟨lw_p6, List.forall_mem_cons.mpr ⟨lw_p7, List.forall_mem_cons.mpr ⟨lw_p8, List.forall_mem_cons.mpr ⟨lw_p9, List.forall_mem_cons.mpr ⟨lw_p10, List.forall_mem_cons.mpr ⟨lw_p11, List.forall_mem_cons.mpr ⟨lw_p12, List.forall_mem_cons.mpr ⟨lw_p13, List.forall_mem_cons.mpr ⟨lw_p14, List.forall_mem_cons.mpr ⟨lw_p15, fun _ h => absurd h List.not_mem_nil⟩⟩⟩⟩⟩⟩⟩⟩⟩⟩⟩⟩⟩⟩⟩⟩
theorem lw_p16 : lw_okq (⟨"ShodForTheRoad", "startChances", "(I)V"⟩, 14) := ⟨⟨by decide +kernel, by decide +kernel⟩, List.mem_of_getElem? (i := 11) (by decide +kernel), List.mem_of_getElem? (i := 545) (by decide +kernel), List.mem_of_getElem? (i := 546) (by decide +kernel)⟩
theorem lw_p17 : lw_okq (⟨"ShodForTheRoad", "spreadChances", "(I)V"⟩, 14) := ⟨⟨by decide +kernel, by decide +kernel⟩, List.mem_of_getElem? (i := 11) (by decide +kernel), List.mem_of_getElem? (i := 549) (by decide +kernel), List.mem_of_getElem? (i := 550) (by decide +kernel)⟩
theorem lw_p18 : lw_okq (⟨"ShodForTheRoad", "mindFollowsRow", "()Z"⟩, 14) := ⟨⟨by decide +kernel, by decide +kernel⟩, List.mem_of_getElem? (i := 11) (by decide +kernel), List.mem_of_getElem? (i := 572) (by decide +kernel), List.mem_of_getElem? (i := 573) (by decide +kernel)⟩
theorem lw_p19 : lw_okq (⟨"ShodForTheRoad", "firstWrongInRow", "()I"⟩, 14) := ⟨⟨by decide +kernel, by decide +kernel⟩, List.mem_of_getElem? (i := 11) (by decide +kernel), List.mem_of_getElem? (i := 584) (by decide +kernel), List.mem_of_getElem? (i := 585) (by decide +kernel)⟩
theorem lw_p20 : lw_okq (⟨"ShodForTheRoad", "refusalCount", "(I)I"⟩, 14) := ⟨⟨by decide +kernel, by decide +kernel⟩, List.mem_of_getElem? (i := 11) (by decide +kernel), List.mem_of_getElem? (i := 626) (by decide +kernel), List.mem_of_getElem? (i := 627) (by decide +kernel)⟩
theorem lw_p21 : lw_okq (⟨"ShodForTheRoadModel", "no", "(I)I"⟩, 15) := ⟨⟨by decide +kernel, by decide +kernel⟩, List.mem_of_getElem? (i := 630) (by decide +kernel), List.mem_of_getElem? (i := 686) (by decide +kernel), List.mem_of_getElem? (i := 687) (by decide +kernel)⟩
theorem lw_p22 : lw_okq (⟨"ShodForTheRoadModel", "readsStatement", "()Z"⟩, 15) := ⟨⟨by decide +kernel, by decide +kernel⟩, List.mem_of_getElem? (i := 630) (by decide +kernel), List.mem_of_getElem? (i := 694) (by decide +kernel), List.mem_of_getElem? (i := 695) (by decide +kernel)⟩
theorem lw_p23 : lw_okq (⟨"ShodForTheRoadModel", "here", "()I"⟩, 15) := ⟨⟨by decide +kernel, by decide +kernel⟩, List.mem_of_getElem? (i := 630) (by decide +kernel), List.mem_of_getElem? (i := 698) (by decide +kernel), List.mem_of_getElem? (i := 699) (by decide +kernel)⟩
theorem lw_p24 : lw_okq (⟨"ShodForTheRoadModel", "readsNumber", "(II)Z"⟩, 15) := ⟨⟨by decide +kernel, by decide +kernel⟩, List.mem_of_getElem? (i := 630) (by decide +kernel), List.mem_of_getElem? (i := 702) (by decide +kernel), List.mem_of_getElem? (i := 703) (by decide +kernel)⟩
theorem lw_p25 : lw_okq (⟨"ShodForTheRoadModel", "readsKind", "()Z"⟩, 15) := ⟨⟨by decide +kernel, by decide +kernel⟩, List.mem_of_getElem? (i := 630) (by decide +kernel), List.mem_of_getElem? (i := 709) (by decide +kernel), List.mem_of_getElem? (i := 710) (by decide +kernel)⟩
theorem lw_p26 : lw_okq (⟨"ShodForTheRoadModel", "isDone", "(I)Z"⟩, 15) := ⟨⟨by decide +kernel, by decide +kernel⟩, List.mem_of_getElem? (i := 630) (by decide +kernel), List.mem_of_getElem? (i := 719) (by decide +kernel), List.mem_of_getElem? (i := 720) (by decide +kernel)⟩
theorem lw_p27 : lw_okq (⟨"ShodForTheRoadModel", "addsRider", "()Z"⟩, 15) := ⟨⟨by decide +kernel, by decide +kernel⟩, List.mem_of_getElem? (i := 630) (by decide +kernel), List.mem_of_getElem? (i := 729) (by decide +kernel), List.mem_of_getElem? (i := 730) (by decide +kernel)⟩
theorem lw_p28 : lw_okq (⟨"ShodForTheRoadModel", "isRider", "(I)Z"⟩, 15) := ⟨⟨by decide +kernel, by decide +kernel⟩, List.mem_of_getElem? (i := 630) (by decide +kernel), List.mem_of_getElem? (i := 742) (by decide +kernel), List.mem_of_getElem? (i := 743) (by decide +kernel)⟩
theorem lw_p29 : lw_okq (⟨"ShodForTheRoadModel", "daysOn", "([II)V"⟩, 15) := ⟨⟨by decide +kernel, by decide +kernel⟩, List.mem_of_getElem? (i := 630) (by decide +kernel), List.mem_of_getElem? (i := 746) (by decide +kernel), List.mem_of_getElem? (i := 747) (by decide +kernel)⟩
theorem lw_p30 : lw_okq (⟨"ShodForTheRoadModel", "measures", "([I)V"⟩, 15) := ⟨⟨by decide +kernel, by decide +kernel⟩, List.mem_of_getElem? (i := 630) (by decide +kernel), List.mem_of_getElem? (i := 750) (by decide +kernel), List.mem_of_getElem? (i := 751) (by decide +kernel)⟩
theorem lw_p31 : lw_okq (⟨"ShodForTheRoadModel", "day", "([IZ)V"⟩, 15) := ⟨⟨by decide +kernel, by decide +kernel⟩, List.mem_of_getElem? (i := 630) (by decide +kernel), List.mem_of_getElem? (i := 760) (by decide +kernel), List.mem_of_getElem? (i := 761) (by decide +kernel)⟩
def lw_privs_2 : List (MethodName × Nat) := [(⟨"ShodForTheRoad", "startChances", "(I)V"⟩, 14), (⟨"ShodForTheRoad", "spreadChances", "(I)V"⟩, 14), (⟨"ShodForTheRoad", "mindFollowsRow", "()Z"⟩, 14), (⟨"ShodForTheRoad", "firstWrongInRow", "()I"⟩, 14), (⟨"ShodForTheRoad", "refusalCount", "(I)I"⟩, 14), (⟨"ShodForTheRoadModel", "no", "(I)I"⟩, 15), (⟨"ShodForTheRoadModel", "readsStatement", "()Z"⟩, 15), (⟨"ShodForTheRoadModel", "here", "()I"⟩, 15), (⟨"ShodForTheRoadModel", "readsNumber", "(II)Z"⟩, 15), (⟨"ShodForTheRoadModel", "readsKind", "()Z"⟩, 15), (⟨"ShodForTheRoadModel", "isDone", "(I)Z"⟩, 15), (⟨"ShodForTheRoadModel", "addsRider", "()Z"⟩, 15), (⟨"ShodForTheRoadModel", "isRider", "(I)Z"⟩, 15), (⟨"ShodForTheRoadModel", "daysOn", "([II)V"⟩, 15), (⟨"ShodForTheRoadModel", "measures", "([I)V"⟩, 15), (⟨"ShodForTheRoadModel", "day", "([IZ)V"⟩, 15)]
theorem lw_r2 : ∀ q ∈ lw_privs_2, lw_okq q := List.forall_mem_cons.mpr ⟨lw_p16, List.forall_mem_cons.mpr ⟨lw_p17, List.forall_mem_cons.mpr ⟨lw_p18, List.forall_mem_cons.mpr ⟨lw_p19, List.forall_mem_cons.mpr ⟨lw_p20, List.forall_mem_cons.mpr ⟨lw_p21, List.forall_mem_cons.mpr ⟨lw_p22, List.forall_mem_cons.mpr ⟨lw_p23, List.forall_mem_cons.mpr ⟨lw_p24, List.forall_mem_cons.mpr ⟨lw_p25, List.forall_mem_cons.mpr ⟨lw_p26, List.forall_mem_cons.mpr ⟨lw_p27, List.forall_mem_cons.mpr ⟨lw_p28, List.forall_mem_cons.mpr ⟨lw_p29, List.forall_mem_cons.mpr ⟨lw_p30, List.forall_mem_cons.mpr ⟨lw_p31, fun _ h => absurd h List.not_mem_nil⟩⟩⟩⟩⟩⟩⟩⟩⟩⟩⟩⟩⟩⟩⟩⟩
theorem lw_p32 : lw_okq (⟨"ShodForTheRoadModel", "goes", "([II)V"⟩, 15) := ⟨⟨by decide +kernel, by decide +kernel⟩, List.mem_of_getElem? (i := 630) (by decide +kernel), List.mem_of_getElem? (i := 767) (by decide +kernel), List.mem_of_getElem? (i := 768) (by decide +kernel)⟩
theorem lw_p33 : lw_okq (⟨"ShodForTheRoadModel", "pull", "([III)I"⟩, 15) := ⟨⟨by decide +kernel, by decide +kernel⟩, List.mem_of_getElem? (i := 630) (by decide +kernel), List.mem_of_getElem? (i := 771) (by decide +kernel), List.mem_of_getElem? (i := 772) (by decide +kernel)⟩
theorem lw_p34 : lw_okq (⟨"ShodForTheRoadModel", "sets", "(III)I"⟩, 15) := ⟨⟨by decide +kernel, by decide +kernel⟩, List.mem_of_getElem? (i := 630) (by decide +kernel), List.mem_of_getElem? (i := 799) (by decide +kernel), List.mem_of_getElem? (i := 800) (by decide +kernel)⟩
theorem lw_p35 : lw_okq (⟨"ShodForTheRoadModel", "takes", "(I)V"⟩, 15) := ⟨⟨by decide +kernel, by decide +kernel⟩, List.mem_of_getElem? (i := 630) (by decide +kernel), List.mem_of_getElem? (i := 828) (by decide +kernel), List.mem_of_getElem? (i := 829) (by decide +kernel)⟩
theorem lw_p36 : lw_okq (⟨"ShodForTheRoadModel", "areWrong", "(II)Z"⟩, 15) := ⟨⟨by decide +kernel, by decide +kernel⟩, List.mem_of_getElem? (i := 630) (by decide +kernel), List.mem_of_getElem? (i := 836) (by decide +kernel), List.mem_of_getElem? (i := 837) (by decide +kernel)⟩
theorem lw_p37 : lw_okq (⟨"ShodForTheRoadModel", "comesNow", "(II)I"⟩, 15) := ⟨⟨by decide +kernel, by decide +kernel⟩, List.mem_of_getElem? (i := 630) (by decide +kernel), List.mem_of_getElem? (i := 840) (by decide +kernel), List.mem_of_getElem? (i := 841) (by decide +kernel)⟩
theorem lw_p38 : lw_okq (⟨"ShodForTheRoadModel", "comesIn", "(II)I"⟩, 15) := ⟨⟨by decide +kernel, by decide +kernel⟩, List.mem_of_getElem? (i := 630) (by decide +kernel), List.mem_of_getElem? (i := 844) (by decide +kernel), List.mem_of_getElem? (i := 845) (by decide +kernel)⟩
theorem lw_p39 : lw_okq (⟨"ShodForTheRoadModel", "isResting", "(II)Z"⟩, 15) := ⟨⟨by decide +kernel, by decide +kernel⟩, List.mem_of_getElem? (i := 630) (by decide +kernel), List.mem_of_getElem? (i := 859) (by decide +kernel), List.mem_of_getElem? (i := 860) (by decide +kernel)⟩
theorem lw_p40 : lw_okq (⟨"ShodForTheRoadModel", "comesTurned", "(IIII)I"⟩, 15) := ⟨⟨by decide +kernel, by decide +kernel⟩, List.mem_of_getElem? (i := 630) (by decide +kernel), List.mem_of_getElem? (i := 883) (by decide +kernel), List.mem_of_getElem? (i := 884) (by decide +kernel)⟩
theorem lw_p41 : lw_okq (⟨"ShodForTheRoadModel", "mostApart", "()I"⟩, 15) := ⟨⟨by decide +kernel, by decide +kernel⟩, List.mem_of_getElem? (i := 630) (by decide +kernel), List.mem_of_getElem? (i := 907) (by decide +kernel), List.mem_of_getElem? (i := 908) (by decide +kernel)⟩
theorem lw_p42 : lw_okq (⟨"ShodForTheRoadModel", "totalIn", "()I"⟩, 15) := ⟨⟨by decide +kernel, by decide +kernel⟩, List.mem_of_getElem? (i := 630) (by decide +kernel), List.mem_of_getElem? (i := 923) (by decide +kernel), List.mem_of_getElem? (i := 924) (by decide +kernel)⟩
theorem lw_p43 : lw_okq (⟨"ShodForTheRoadModel", "stepsLeft", "([II)I"⟩, 15) := ⟨⟨by decide +kernel, by decide +kernel⟩, List.mem_of_getElem? (i := 630) (by decide +kernel), List.mem_of_getElem? (i := 927) (by decide +kernel), List.mem_of_getElem? (i := 928) (by decide +kernel)⟩
theorem lw_p44 : lw_okq (⟨"ShodForTheRoadModel", "costBy", "(IIIIII)I"⟩, 15) := ⟨⟨by decide +kernel, by decide +kernel⟩, List.mem_of_getElem? (i := 630) (by decide +kernel), List.mem_of_getElem? (i := 939) (by decide +kernel), List.mem_of_getElem? (i := 940) (by decide +kernel)⟩
theorem lw_p45 : lw_okq (⟨"ShodForTheRoadModel", "noWide", "(I)J"⟩, 15) := ⟨⟨by decide +kernel, by decide +kernel⟩, List.mem_of_getElem? (i := 630) (by decide +kernel), List.mem_of_getElem? (i := 947) (by decide +kernel), List.mem_of_getElem? (i := 948) (by decide +kernel)⟩
theorem lw_p46 : lw_okq (⟨"ShodForTheRoadModel", "sum", "(I)I"⟩, 15) := ⟨⟨by decide +kernel, by decide +kernel⟩, List.mem_of_getElem? (i := 630) (by decide +kernel), List.mem_of_getElem? (i := 962) (by decide +kernel), List.mem_of_getElem? (i := 963) (by decide +kernel)⟩
theorem lw_p47 : lw_okq (⟨"ShodForTheRoadModel", "drawn", "(I)I"⟩, 15) := ⟨⟨by decide +kernel, by decide +kernel⟩, List.mem_of_getElem? (i := 630) (by decide +kernel), List.mem_of_getElem? (i := 986) (by decide +kernel), List.mem_of_getElem? (i := 987) (by decide +kernel)⟩
def lw_privs_3 : List (MethodName × Nat) := [(⟨"ShodForTheRoadModel", "goes", "([II)V"⟩, 15), (⟨"ShodForTheRoadModel", "pull", "([III)I"⟩, 15), (⟨"ShodForTheRoadModel", "sets", "(III)I"⟩, 15), (⟨"ShodForTheRoadModel", "takes", "(I)V"⟩, 15), (⟨"ShodForTheRoadModel", "areWrong", "(II)Z"⟩, 15), (⟨"ShodForTheRoadModel", "comesNow", "(II)I"⟩, 15), (⟨"ShodForTheRoadModel", "comesIn", "(II)I"⟩, 15), (⟨"ShodForTheRoadModel", "isResting", "(II)Z"⟩, 15), (⟨"ShodForTheRoadModel", "comesTurned", "(IIII)I"⟩, 15), (⟨"ShodForTheRoadModel", "mostApart", "()I"⟩, 15), (⟨"ShodForTheRoadModel", "totalIn", "()I"⟩, 15), (⟨"ShodForTheRoadModel", "stepsLeft", "([II)I"⟩, 15), (⟨"ShodForTheRoadModel", "costBy", "(IIIIII)I"⟩, 15), (⟨"ShodForTheRoadModel", "noWide", "(I)J"⟩, 15), (⟨"ShodForTheRoadModel", "sum", "(I)I"⟩, 15), (⟨"ShodForTheRoadModel", "drawn", "(I)I"⟩, 15)]
theorem lw_r3 : ∀ q ∈ lw_privs_3, lw_okq q := List.forall_mem_cons.mpr ⟨lw_p32, List.forall_mem_cons.mpr ⟨lw_p33, List.forall_mem_cons.mpr ⟨lw_p34, List.forall_mem_cons.mpr ⟨lw_p35, List.forall_mem_cons.mpr ⟨lw_p36, List.forall_mem_cons.mpr ⟨lw_p37, List.forall_mem_cons.mpr ⟨lw_p38, List.forall_mem_cons.mpr ⟨lw_p39, List.forall_mem_cons.mpr ⟨lw_p40, List.forall_mem_cons.mpr ⟨lw_p41, List.forall_mem_cons.mpr ⟨lw_p42, List.forall_mem_cons.mpr ⟨lw_p43, List.forall_mem_cons.mpr ⟨lw_p44, List.forall_mem_cons.mpr ⟨lw_p45, List.forall_mem_cons.mpr ⟨lw_p46, List.forall_mem_cons.mpr ⟨lw_p47, fun _ h => absurd h List.not_mem_nil⟩⟩⟩⟩⟩⟩⟩⟩⟩⟩⟩⟩⟩⟩⟩⟩
def lw_privs : List (MethodName × Nat) := lw_privs_1 ++ (lw_privs_2 ++ (lw_privs_3))
def lw_tbl : List Cond := k2_sels lw_privs ++ tables_1
theorem lw_privs_ok : ∀ q ∈ lw_privs, lw_okq q := by
  show ∀ q ∈ lw_privs_1 ++ (lw_privs_2 ++ (lw_privs_3)), lw_okq q
  exact List.forall_mem_append.mpr ⟨lw_r1, List.forall_mem_append.mpr ⟨lw_r2, lw_r3⟩⟩
end
section
def RX0 : String := "ShodForTheRoad$County"
def TX0 : u_T := fun k => match k with
  | 0 => ("ShodForTheRoad$County", "net", "LShodForTheRoad$Roads;", true)
  | 1 => ("ShodForTheRoad$County", "riders", "[LShodForTheRoad$Horseman;", true)
  | 2 => ("ShodForTheRoad$County", "riderCount", "I", false)
  | _ => ("ShodForTheRoad$County", "day", "I", false)
def tyX0 : Nat → FieldType := fun k => match k with
  | 0 => .object "ShodForTheRoad$Roads"
  | 1 => .array (.object "ShodForTheRoad$Horseman")
  | 2 => .int
  | _ => .int
abbrev wsX00 : List Cond := u_ws RX0 TX0 4
theorem nmX0 : ∀ a, a < 4 → ∀ b, b < 4 → a ≠ b → (TX0 a).2.1 ≠ (TX0 b).2.1 := by decide +kernel
theorem tyX0_ok : ∀ k, k < 4 → parseFieldDescriptor (TX0 k).2.2.1 = some (tyX0 k) := by decide +kernel
abbrev cX0_init : ByteArray := prog_2_method_1_code
def yX0_init : MethodName := ⟨RX0, "<init>", "()V"⟩
abbrev cX0_becomes : ByteArray := prog_2_method_2_code
def yX0_becomes : MethodName := ⟨RX0, "becomes", "(LShodForTheRoad$County;)V"⟩
abbrev cX0_hasRider : ByteArray := prog_2_method_3_code
def yX0_hasRider : MethodName := ⟨RX0, "hasRider", "(I)Z"⟩
abbrev cX0_changeRoad : ByteArray := prog_2_method_4_code
def yX0_changeRoad : MethodName := ⟨RX0, "changeRoad", "(II)Z"⟩
abbrev cX0_addRider : ByteArray := prog_2_method_5_code
def yX0_addRider : MethodName := ⟨RX0, "addRider", "(IIIII)Z"⟩
abbrev cX0_shoeAnew : ByteArray := prog_2_method_6_code
def yX0_shoeAnew : MethodName := ⟨RX0, "shoeAnew", "(I)Z"⟩
abbrev cX0_setGoal : ByteArray := prog_2_method_7_code
def yX0_setGoal : MethodName := ⟨RX0, "setGoal", "(II)Z"⟩
abbrev cX0_setAt : ByteArray := prog_2_method_8_code
def yX0_setAt : MethodName := ⟨RX0, "setAt", "(II)Z"⟩
abbrev cX0_passDays : ByteArray := prog_2_method_9_code
def yX0_passDays : MethodName := ⟨RX0, "passDays", "(I)Z"⟩
abbrev cX0_arrivedBits : ByteArray := prog_2_method_10_code
def yX0_arrivedBits : MethodName := ⟨RX0, "arrivedBits", "()I"⟩
abbrev cX0_honestBits : ByteArray := prog_2_method_11_code
def yX0_honestBits : MethodName := ⟨RX0, "honestBits", "()I"⟩
abbrev cX0_lostBits : ByteArray := prog_2_method_12_code
def yX0_lostBits : MethodName := ⟨RX0, "lostBits", "()I"⟩
abbrev cX0_allShoes : ByteArray := prog_2_method_13_code
def yX0_allShoes : MethodName := ⟨RX0, "allShoes", "()I"⟩
abbrev cX0_allWorn : ByteArray := prog_2_method_14_code
def yX0_allWorn : MethodName := ⟨RX0, "allWorn", "()I"⟩
def RX1 : String := "ShodForTheRoad$Horseman"
def TX1 : u_T := fun k => match k with
  | 0 => ("ShodForTheRoad$Horseman", "kind", "I", false)
  | 1 => ("ShodForTheRoad$Horseman", "figure", "I", false)
  | 2 => ("ShodForTheRoad$Horseman", "goal", "I", false)
  | 3 => ("ShodForTheRoad$Horseman", "says", "I", false)
  | 4 => ("ShodForTheRoad$Horseman", "at", "I", false)
  | 5 => ("ShodForTheRoad$Horseman", "shoes", "I", false)
  | _ => ("ShodForTheRoad$Horseman", "worn", "I", false)
def tyX1 : Nat → FieldType := fun k => match k with
  | 0 => .int
  | 1 => .int
  | 2 => .int
  | 3 => .int
  | 4 => .int
  | 5 => .int
  | _ => .int
abbrev wsX10 : List Cond := u_ws RX1 TX1 7
theorem nmX1 : ∀ a, a < 7 → ∀ b, b < 7 → a ≠ b → (TX1 a).2.1 ≠ (TX1 b).2.1 := by decide +kernel
theorem tyX1_ok : ∀ k, k < 7 → parseFieldDescriptor (TX1 k).2.2.1 = some (tyX1 k) := by decide +kernel
abbrev cX1_init : ByteArray := prog_3_method_1_code
def yX1_init : MethodName := ⟨RX1, "<init>", "()V"⟩
abbrev cX1_becomes : ByteArray := prog_3_method_2_code
def yX1_becomes : MethodName := ⟨RX1, "becomes", "(LShodForTheRoad$Horseman;)V"⟩
abbrev cX1_shoeAnew : ByteArray := prog_3_method_3_code
def yX1_shoeAnew : MethodName := ⟨RX1, "shoeAnew", "()V"⟩
abbrev cX1_daysForShoe : ByteArray := prog_3_method_4_code
def yX1_daysForShoe : MethodName := ⟨RX1, "daysForShoe", "()I"⟩
abbrev cX1_wearIron : ByteArray := prog_3_method_5_code
def yX1_wearIron : MethodName := ⟨RX1, "wearIron", "()V"⟩
abbrev cX1_pullOf : ByteArray := prog_3_method_6_code
def yX1_pullOf : MethodName := ⟨RX1, "pullOf", "(LShodForTheRoad$Roads;I)I"⟩
abbrev cX1_nextFrom : ByteArray := prog_3_method_7_code
def yX1_nextFrom : MethodName := ⟨RX1, "nextFrom", "(LShodForTheRoad$Roads;I)I"⟩
abbrev cX1_rideDay : ByteArray := prog_3_method_8_code
def yX1_rideDay : MethodName := ⟨RX1, "rideDay", "(LShodForTheRoad$Roads;)V"⟩
abbrev cX1_rideDays : ByteArray := prog_3_method_9_code
def yX1_rideDays : MethodName := ⟨RX1, "rideDays", "(LShodForTheRoad$Roads;I)V"⟩
abbrev cX1_daysUntilAt : ByteArray := prog_3_method_10_code
def yX1_daysUntilAt : MethodName := ⟨RX1, "daysUntilAt", "(LShodForTheRoad$Roads;I)I"⟩
abbrev cX1_stepsToGo : ByteArray := prog_3_method_11_code
def yX1_stepsToGo : MethodName := ⟨RX1, "stepsToGo", "(LShodForTheRoad$Roads;)I"⟩
abbrev cX1_isWhereHeSays : ByteArray := prog_3_method_12_code
def yX1_isWhereHeSays : MethodName := ⟨RX1, "isWhereHeSays", "()Z"⟩
def RX2 : String := "ShodForTheRoad$Roads"
def TX2 : u_T := fun k => match k with
  | 0 => ("ShodForTheRoad$Roads", "joined", "[I", true)
  | _ => ("ShodForTheRoad$Roads", "stepTable", "[I", true)
def tyX2 : Nat → FieldType := fun k => match k with
  | 0 => .array .int
  | _ => .array .int
abbrev wsX20 : List Cond := u_ws RX2 TX2 2
theorem nmX2 : ∀ a, a < 2 → ∀ b, b < 2 → a ≠ b → (TX2 a).2.1 ≠ (TX2 b).2.1 := by decide +kernel
theorem tyX2_ok : ∀ k, k < 2 → parseFieldDescriptor (TX2 k).2.2.1 = some (tyX2 k) := by decide +kernel
abbrev cX2_init : ByteArray := prog_4_method_1_code
def yX2_init : MethodName := ⟨RX2, "<init>", "()V"⟩
abbrev cX2_becomes : ByteArray := prog_4_method_2_code
def yX2_becomes : MethodName := ⟨RX2, "becomes", "(LShodForTheRoad$Roads;)V"⟩
abbrev cX2_joins : ByteArray := prog_4_method_3_code
def yX2_joins : MethodName := ⟨RX2, "joins", "(II)Z"⟩
abbrev cX2_stepsBetween : ByteArray := prog_4_method_4_code
def yX2_stepsBetween : MethodName := ⟨RX2, "stepsBetween", "(II)I"⟩
abbrev cX2_change : ByteArray := prog_4_method_5_code
def yX2_change : MethodName := ⟨RX2, "change", "(II)V"⟩
abbrev cX2_roadCount : ByteArray := prog_4_method_6_code
def yX2_roadCount : MethodName := ⟨RX2, "roadCount", "()I"⟩
abbrev cX2_mostSteps : ByteArray := prog_4_method_7_code
def yX2_mostSteps : MethodName := ⟨RX2, "mostSteps", "()I"⟩
abbrev cX2_farBits : ByteArray := prog_4_method_8_code
def yX2_farBits : MethodName := ⟨RX2, "farBits", "()I"⟩
abbrev cX2_reckonSteps : ByteArray := prog_4_method_9_code
def yX2_reckonSteps : MethodName := ⟨RX2, "reckonSteps", "()V"⟩
def RX3 : String := "ShodForTheRoad$Telling"
def TX3 : u_T := fun k => match k with
  | 0 => ("ShodForTheRoad$Telling", "signs", "[I", true)
  | _ => ("ShodForTheRoad$Telling", "length", "I", false)
def tyX3 : Nat → FieldType := fun k => match k with
  | 0 => .array .int
  | _ => .int
abbrev wsX30 : List Cond := u_ws RX3 TX3 2
theorem nmX3 : ∀ a, a < 2 → ∀ b, b < 2 → a ≠ b → (TX3 a).2.1 ≠ (TX3 b).2.1 := by decide +kernel
theorem tyX3_ok : ∀ k, k < 2 → parseFieldDescriptor (TX3 k).2.2.1 = some (tyX3 k) := by decide +kernel
abbrev cX3_init : ByteArray := prog_5_method_1_code
def yX3_init : MethodName := ⟨RX3, "<init>", "()V"⟩
abbrev cX3_isFull : ByteArray := prog_5_method_2_code
def yX3_isFull : MethodName := ⟨RX3, "isFull", "()Z"⟩
abbrev cX3_add : ByteArray := prog_5_method_3_code
def yX3_add : MethodName := ⟨RX3, "add", "(I)I"⟩
abbrev cX3_forget : ByteArray := prog_5_method_4_code
def yX3_forget : MethodName := ⟨RX3, "forget", "()V"⟩
abbrev cX3_tellTo : ByteArray := prog_5_method_5_code
def yX3_tellTo : MethodName := ⟨RX3, "tellTo", "(LShodForTheRoad$County;)I"⟩
abbrev cX3_signAt : ByteArray := prog_5_method_6_code
def yX3_signAt : MethodName := ⟨RX3, "signAt", "(I)I"⟩
abbrev cX3_digitAt : ByteArray := prog_5_method_7_code
def yX3_digitAt : MethodName := ⟨RX3, "digitAt", "(I)I"⟩
abbrev cX3_lettersOf : ByteArray := prog_5_method_8_code
def yX3_lettersOf : MethodName := ⟨RX3, "lettersOf", "(I)I"⟩
abbrev cX3_firstUnfit : ByteArray := prog_5_method_9_code
def yX3_firstUnfit : MethodName := ⟨RX3, "firstUnfit", "()I"⟩
abbrev cX3_fits : ByteArray := prog_5_method_10_code
def yX3_fits : MethodName := ⟨RX3, "fits", "(II)Z"⟩
abbrev cX3_tellStatement : ByteArray := prog_5_method_11_code
def yX3_tellStatement : MethodName := ⟨RX3, "tellStatement", "(LShodForTheRoad$County;I)Z"⟩
abbrev cX3_tellRider : ByteArray := prog_5_method_12_code
def yX3_tellRider : MethodName := ⟨RX3, "tellRider", "(LShodForTheRoad$County;I)Z"⟩
def RX4 : String := "ShodForTheRoad"
def TX4 : u_T := fun k => match k with
  | 0 => ("ShodForTheRoad", "now", "LShodForTheRoad$County;", true)
  | 1 => ("ShodForTheRoad", "kept", "LShodForTheRoad$County;", true)
  | 2 => ("ShodForTheRoad", "thought", "LShodForTheRoad$County;", true)
  | 3 => ("ShodForTheRoad", "thoughtRoads", "LShodForTheRoad$Roads;", true)
  | 4 => ("ShodForTheRoad", "mind", "LShodForTheRoad$Horseman;", true)
  | 5 => ("ShodForTheRoad", "otherMind", "LShodForTheRoad$Horseman;", true)
  | 6 => ("ShodForTheRoad", "telling", "LShodForTheRoad$Telling;", true)
  | 7 => ("ShodForTheRoad", "rowNumbers", "[I", true)
  | 8 => ("ShodForTheRoad", "refusals", "[I", true)
  | 9 => ("ShodForTheRoad", "riderBits", "[I", true)
  | 10 => ("ShodForTheRoad", "chances", "[J", true)
  | 11 => ("ShodForTheRoad", "laterChances", "[J", true)
  | 12 => ("ShodForTheRoad", "rowLength", "I", false)
  | _ => ("ShodForTheRoad", "hasImage", "Z", false)
def tyX4 : Nat → FieldType := fun k => match k with
  | 0 => .object "ShodForTheRoad$County"
  | 1 => .object "ShodForTheRoad$County"
  | 2 => .object "ShodForTheRoad$County"
  | 3 => .object "ShodForTheRoad$Roads"
  | 4 => .object "ShodForTheRoad$Horseman"
  | 5 => .object "ShodForTheRoad$Horseman"
  | 6 => .object "ShodForTheRoad$Telling"
  | 7 => .array .int
  | 8 => .array .int
  | 9 => .array .int
  | 10 => .array .long
  | 11 => .array .long
  | 12 => .int
  | _ => .boolean
abbrev wsX40 : List Cond := u_ws RX4 TX4 14
theorem nmX4 : ∀ a, a < 14 → ∀ b, b < 14 → a ≠ b → (TX4 a).2.1 ≠ (TX4 b).2.1 := by decide +kernel
theorem tyX4_ok : ∀ k, k < 14 → parseFieldDescriptor (TX4 k).2.2.1 = some (tyX4 k) := by decide +kernel
abbrev cX4_init : ByteArray := prog_1_method_1_code
def yX4_init : MethodName := ⟨RX4, "<init>", "()V"⟩
abbrev cX4_letter : ByteArray := prog_1_method_2_code
def yX4_letter : MethodName := ⟨RX4, "letter", "(I)I"⟩
abbrev cX4_county : ByteArray := prog_1_method_3_code
def yX4_county : MethodName := ⟨RX4, "county", "()I"⟩
abbrev cX4_rider : ByteArray := prog_1_method_4_code
def yX4_rider : MethodName := ⟨RX4, "rider", "(II)I"⟩
abbrev cX4_steps : ByteArray := prog_1_method_5_code
def yX4_steps : MethodName := ⟨RX4, "steps", "(II)I"⟩
abbrev cX4_pulls : ByteArray := prog_1_method_6_code
def yX4_pulls : MethodName := ⟨RX4, "pulls", "(II)I"⟩
abbrev cX4_roads : ByteArray := prog_1_method_7_code
def yX4_roads : MethodName := ⟨RX4, "roads", "(II)I"⟩
abbrev cX4_shod : ByteArray := prog_1_method_8_code
def yX4_shod : MethodName := ⟨RX4, "shod", "(I)I"⟩
abbrev cX4_wants : ByteArray := prog_1_method_9_code
def yX4_wants : MethodName := ⟨RX4, "wants", "(II)I"⟩
abbrev cX4_stands : ByteArray := prog_1_method_10_code
def yX4_stands : MethodName := ⟨RX4, "stands", "(II)I"⟩
abbrev cX4_turn : ByteArray := prog_1_method_11_code
def yX4_turn : MethodName := ⟨RX4, "turn", "(III)I"⟩
abbrev cX4_days : ByteArray := prog_1_method_12_code
def yX4_days : MethodName := ⟨RX4, "days", "(I)I"⟩
abbrev cX4_riderThen : ByteArray := prog_1_method_13_code
def yX4_riderThen : MethodName := ⟨RX4, "riderThen", "(III)I"⟩
abbrev cX4_comes : ByteArray := prog_1_method_14_code
def yX4_comes : MethodName := ⟨RX4, "comes", "(II)I"⟩
abbrev cX4_first : ByteArray := prog_1_method_15_code
def yX4_first : MethodName := ⟨RX4, "first", "(I)I"⟩
abbrev cX4_rests : ByteArray := prog_1_method_16_code
def yX4_rests : MethodName := ⟨RX4, "rests", "(I)I"⟩
abbrev cX4_meet : ByteArray := prog_1_method_17_code
def yX4_meet : MethodName := ⟨RX4, "meet", "(III)I"⟩
abbrev cX4_arrived : ByteArray := prog_1_method_18_code
def yX4_arrived : MethodName := ⟨RX4, "arrived", "()I"⟩
abbrev cX4_shoe : ByteArray := prog_1_method_19_code
def yX4_shoe : MethodName := ⟨RX4, "shoe", "(III)I"⟩
abbrev cX4_wish : ByteArray := prog_1_method_20_code
def yX4_wish : MethodName := ⟨RX4, "wish", "(II)I"⟩
abbrev cX4_road : ByteArray := prog_1_method_21_code
def yX4_road : MethodName := ⟨RX4, "road", "(II)I"⟩
abbrev cX4_cut : ByteArray := prog_1_method_22_code
def yX4_cut : MethodName := ⟨RX4, "cut", "(II)I"⟩
abbrev cX4_inn : ByteArray := prog_1_method_23_code
def yX4_inn : MethodName := ⟨RX4, "inn", "(II)I"⟩
abbrev cX4_busiest : ByteArray := prog_1_method_24_code
def yX4_busiest : MethodName := ⟨RX4, "busiest", "()I"⟩
abbrev cX4_near : ByteArray := prog_1_method_25_code
def yX4_near : MethodName := ⟨RX4, "near", "(I)I"⟩
abbrev cX4_apart : ByteArray := prog_1_method_26_code
def yX4_apart : MethodName := ⟨RX4, "apart", "(I)I"⟩
abbrev cX4_tired : ByteArray := prog_1_method_27_code
def yX4_tired : MethodName := ⟨RX4, "tired", "()I"⟩
abbrev cX4_truly : ByteArray := prog_1_method_28_code
def yX4_truly : MethodName := ⟨RX4, "truly", "(I)I"⟩
abbrev cX4_total : ByteArray := prog_1_method_29_code
def yX4_total : MethodName := ⟨RX4, "total", "(I)I"⟩
abbrev cX4_bare : ByteArray := prog_1_method_30_code
def yX4_bare : MethodName := ⟨RX4, "bare", "(I)I"⟩
abbrev cX4_two : ByteArray := prog_1_method_31_code
def yX4_two : MethodName := ⟨RX4, "two", "(III)I"⟩
abbrev cX4_mud : ByteArray := prog_1_method_32_code
def yX4_mud : MethodName := ⟨RX4, "mud", "(IIIII)J"⟩
abbrev cX4_mean : ByteArray := prog_1_method_33_code
def yX4_mean : MethodName := ⟨RX4, "mean", "(I)J"⟩
abbrev cX4_whatWanted : ByteArray := prog_1_method_34_code
def yX4_whatWanted : MethodName := ⟨RX4, "whatWanted", "(II)I"⟩
abbrev cX4_row : ByteArray := prog_1_method_35_code
def yX4_row : MethodName := ⟨RX4, "row", "(I)I"⟩
abbrev cX4_judge : ByteArray := prog_1_method_36_code
def yX4_judge : MethodName := ⟨RX4, "judge", "()I"⟩
abbrev cX4_clear : ByteArray := prog_1_method_37_code
def yX4_clear : MethodName := ⟨RX4, "clear", "()I"⟩
abbrev cX4_lots : ByteArray := prog_1_method_38_code
def yX4_lots : MethodName := ⟨RX4, "lots", "(III)I"⟩
abbrev cX4_image : ByteArray := prog_1_method_39_code
def yX4_image : MethodName := ⟨RX4, "image", "()I"⟩
abbrev cX4_on : ByteArray := prog_1_method_40_code
def yX4_on : MethodName := ⟨RX4, "on", "()I"⟩
abbrev cX4_count : ByteArray := prog_1_method_41_code
def yX4_count : MethodName := ⟨RX4, "count", "(I)I"⟩
abbrev cX4_refusalCount : ByteArray := prog_1_method_42_code
def yX4_refusalCount : MethodName := ⟨RX4, "refusalCount", "(I)I"⟩
abbrev cX4_refuse : ByteArray := prog_1_method_43_code
def yX4_refuse : MethodName := ⟨RX4, "refuse", "(I)I"⟩
abbrev cX4_refuseLong : ByteArray := prog_1_method_44_code
def yX4_refuseLong : MethodName := ⟨RX4, "refuseLong", "(I)J"⟩
abbrev cX4_refusalOfNumber : ByteArray := prog_1_method_45_code
def yX4_refusalOfNumber : MethodName := ⟨RX4, "refusalOfNumber", "(III)I"⟩
abbrev cX4_isBelow : ByteArray := prog_1_method_46_code
def yX4_isBelow : MethodName := ⟨RX4, "isBelow", "(II)Z"⟩
abbrev cX4_isPlace : ByteArray := prog_1_method_47_code
def yX4_isPlace : MethodName := ⟨RX4, "isPlace", "(I)Z"⟩
abbrev cX4_dayOrNone : ByteArray := prog_1_method_48_code
def yX4_dayOrNone : MethodName := ⟨RX4, "dayOrNone", "(I)I"⟩
abbrev cX4_thinkOf : ByteArray := prog_1_method_49_code
def yX4_thinkOf : MethodName := ⟨RX4, "thinkOf", "(I)V"⟩
abbrev cX4_comesNow : ByteArray := prog_1_method_50_code
def yX4_comesNow : MethodName := ⟨RX4, "comesNow", "(II)I"⟩
abbrev cX4_comesWithChange : ByteArray := prog_1_method_51_code
def yX4_comesWithChange : MethodName := ⟨RX4, "comesWithChange", "(IIII)I"⟩
abbrev cX4_mindDaysWhereHeSays : ByteArray := prog_1_method_52_code
def yX4_mindDaysWhereHeSays : MethodName := ⟨RX4, "mindDaysWhereHeSays", "()J"⟩
abbrev cX4_noteGuests : ByteArray := prog_1_method_53_code
def yX4_noteGuests : MethodName := ⟨RX4, "noteGuests", "(I)V"⟩
abbrev cX4_totalWithBare : ByteArray := prog_1_method_54_code
def yX4_totalWithBare : MethodName := ⟨RX4, "totalWithBare", "(II)I"⟩
abbrev cX4_costOfChoice : ByteArray := prog_1_method_55_code
def yX4_costOfChoice : MethodName := ⟨RX4, "costOfChoice", "(III)I"⟩
abbrev cX4_startChances : ByteArray := prog_1_method_56_code
def yX4_startChances : MethodName := ⟨RX4, "startChances", "(I)V"⟩
abbrev cX4_spreadChances : ByteArray := prog_1_method_57_code
def yX4_spreadChances : MethodName := ⟨RX4, "spreadChances", "(I)V"⟩
abbrev cX4_mindFollowsRow : ByteArray := prog_1_method_58_code
def yX4_mindFollowsRow : MethodName := ⟨RX4, "mindFollowsRow", "()Z"⟩
abbrev cX4_firstWrongInRow : ByteArray := prog_1_method_59_code
def yX4_firstWrongInRow : MethodName := ⟨RX4, "firstWrongInRow", "()I"⟩
abbrev cX4_partOfFraction : ByteArray := prog_1_method_60_code
def yX4_partOfFraction : MethodName := ⟨RX4, "partOfFraction", "(JJI)J"⟩
abbrev cX4_greatestDivisor : ByteArray := prog_1_method_61_code
def yX4_greatestDivisor : MethodName := ⟨RX4, "greatestDivisor", "(JJ)J"⟩
abbrev cX4_nextSeed : ByteArray := prog_1_method_62_code
def yX4_nextSeed : MethodName := ⟨RX4, "nextSeed", "(I)I"⟩
abbrev cX4_drawn : ByteArray := prog_1_method_63_code
def yX4_drawn : MethodName := ⟨RX4, "drawn", "(II)I"⟩
abbrev cX4_shoesOfKind : ByteArray := prog_1_method_64_code
def yX4_shoesOfKind : MethodName := ⟨RX4, "shoesOfKind", "(I)I"⟩
abbrev cX4_daysOfKind : ByteArray := prog_1_method_65_code
def yX4_daysOfKind : MethodName := ⟨RX4, "daysOfKind", "(II)I"⟩
abbrev cX4_kindOfLetter : ByteArray := prog_1_method_66_code
def yX4_kindOfLetter : MethodName := ⟨RX4, "kindOfLetter", "(I)I"⟩
def RX5 : String := "ShodForTheRoadModel"
def TX5 : u_T := fun k => match k with
  | 0 => ("ShodForTheRoadModel", "s", "[I", true)
  | 1 => ("ShodForTheRoadModel", "m", "[I", true)
  | 2 => ("ShodForTheRoadModel", "image", "[I", true)
  | 3 => ("ShodForTheRoadModel", "was", "[I", true)
  | 4 => ("ShodForTheRoadModel", "far", "[I", true)
  | 5 => ("ShodForTheRoadModel", "hasImage", "Z", false)
  | 6 => ("ShodForTheRoadModel", "letters", "[I", true)
  | 7 => ("ShodForTheRoadModel", "row", "[I", true)
  | 8 => ("ShodForTheRoadModel", "refused", "[I", true)
  | 9 => ("ShodForTheRoadModel", "letterMany", "I", false)
  | 10 => ("ShodForTheRoadModel", "rowMany", "I", false)
  | 11 => ("ShodForTheRoadModel", "place", "I", false)
  | 12 => ("ShodForTheRoadModel", "numbers", "[I", true)
  | 13 => ("ShodForTheRoadModel", "stays", "[I", true)
  | _ => ("ShodForTheRoadModel", "seed", "I", false)
def tyX5 : Nat → FieldType := fun k => match k with
  | 0 => .array .int
  | 1 => .array .int
  | 2 => .array .int
  | 3 => .array .int
  | 4 => .array .int
  | 5 => .boolean
  | 6 => .array .int
  | 7 => .array .int
  | 8 => .array .int
  | 9 => .int
  | 10 => .int
  | 11 => .int
  | 12 => .array .int
  | 13 => .array .int
  | _ => .int
abbrev wsX50 : List Cond := u_ws RX5 TX5 15
theorem nmX5 : ∀ a, a < 15 → ∀ b, b < 15 → a ≠ b → (TX5 a).2.1 ≠ (TX5 b).2.1 := by decide +kernel
theorem tyX5_ok : ∀ k, k < 15 → parseFieldDescriptor (TX5 k).2.2.1 = some (tyX5 k) := by decide +kernel
abbrev cX5_init : ByteArray := prog_7_method_1_code
def yX5_init : MethodName := ⟨RX5, "<init>", "()V"⟩
abbrev cX5_isIn : ByteArray := prog_7_method_2_code
def yX5_isIn : MethodName := ⟨RX5, "isIn", "(III)Z"⟩
abbrev cX5_least : ByteArray := prog_7_method_3_code
def yX5_least : MethodName := ⟨RX5, "least", "(II)I"⟩
abbrev cX5_copies : ByteArray := prog_7_method_4_code
def yX5_copies : MethodName := ⟨RX5, "copies", "([I[I)V"⟩
abbrev cX5_no : ByteArray := prog_7_method_5_code
def yX5_no : MethodName := ⟨RX5, "no", "(I)I"⟩
abbrev cX5_noWide : ByteArray := prog_7_method_6_code
def yX5_noWide : MethodName := ⟨RX5, "noWide", "(I)J"⟩
abbrev cX5_of : ByteArray := prog_7_method_7_code
def yX5_of : MethodName := ⟨RX5, "of", "(II)I"⟩
abbrev cX5_isRider : ByteArray := prog_7_method_8_code
def yX5_isRider : MethodName := ⟨RX5, "isRider", "(I)Z"⟩
abbrev cX5_isPlace : ByteArray := prog_7_method_9_code
def yX5_isPlace : MethodName := ⟨RX5, "isPlace", "(I)Z"⟩
abbrev cX5_has : ByteArray := prog_7_method_10_code
def yX5_has : MethodName := ⟨RX5, "has", "(II)Z"⟩
abbrev cX5_bits : ByteArray := prog_7_method_11_code
def yX5_bits : MethodName := ⟨RX5, "bits", "(I)I"⟩
abbrev cX5_shoesBy : ByteArray := prog_7_method_12_code
def yX5_shoesBy : MethodName := ⟨RX5, "shoesBy", "(I)I"⟩
abbrev cX5_daysBy : ByteArray := prog_7_method_13_code
def yX5_daysBy : MethodName := ⟨RX5, "daysBy", "(II)I"⟩
abbrev cX5_measures : ByteArray := prog_7_method_14_code
def yX5_measures : MethodName := ⟨RX5, "measures", "([I)V"⟩
abbrev cX5_pull : ByteArray := prog_7_method_15_code
def yX5_pull : MethodName := ⟨RX5, "pull", "([III)I"⟩
abbrev cX5_goes : ByteArray := prog_7_method_16_code
def yX5_goes : MethodName := ⟨RX5, "goes", "([II)V"⟩
abbrev cX5_day : ByteArray := prog_7_method_17_code
def yX5_day : MethodName := ⟨RX5, "day", "([IZ)V"⟩
abbrev cX5_daysOn : ByteArray := prog_7_method_18_code
def yX5_daysOn : MethodName := ⟨RX5, "daysOn", "([II)V"⟩
abbrev cX5_isShod : ByteArray := prog_7_method_19_code
def yX5_isShod : MethodName := ⟨RX5, "isShod", "([II)V"⟩
abbrev cX5_atSaid : ByteArray := prog_7_method_20_code
def yX5_atSaid : MethodName := ⟨RX5, "atSaid", "([I)I"⟩
abbrev cX5_turnsRoad : ByteArray := prog_7_method_21_code
def yX5_turnsRoad : MethodName := ⟨RX5, "turnsRoad", "([III)V"⟩
abbrev cX5_letter : ByteArray := prog_7_method_22_code
def yX5_letter : MethodName := ⟨RX5, "letter", "(I)I"⟩
abbrev cX5_here : ByteArray := prog_7_method_23_code
def yX5_here : MethodName := ⟨RX5, "here", "()I"⟩
abbrev cX5_readsNumber : ByteArray := prog_7_method_24_code
def yX5_readsNumber : MethodName := ⟨RX5, "readsNumber", "(II)Z"⟩
abbrev cX5_kindBy : ByteArray := prog_7_method_25_code
def yX5_kindBy : MethodName := ⟨RX5, "kindBy", "(I)I"⟩
abbrev cX5_readsKind : ByteArray := prog_7_method_26_code
def yX5_readsKind : MethodName := ⟨RX5, "readsKind", "()Z"⟩
abbrev cX5_readsStatement : ByteArray := prog_7_method_27_code
def yX5_readsStatement : MethodName := ⟨RX5, "readsStatement", "()Z"⟩
abbrev cX5_addsRider : ByteArray := prog_7_method_28_code
def yX5_addsRider : MethodName := ⟨RX5, "addsRider", "()Z"⟩
abbrev cX5_isDone : ByteArray := prog_7_method_29_code
def yX5_isDone : MethodName := ⟨RX5, "isDone", "(I)Z"⟩
abbrev cX5_county : ByteArray := prog_7_method_30_code
def yX5_county : MethodName := ⟨RX5, "county", "()I"⟩
abbrev cX5_rider : ByteArray := prog_7_method_31_code
def yX5_rider : MethodName := ⟨RX5, "rider", "(II)I"⟩
abbrev cX5_steps : ByteArray := prog_7_method_32_code
def yX5_steps : MethodName := ⟨RX5, "steps", "(II)I"⟩
abbrev cX5_pulls : ByteArray := prog_7_method_33_code
def yX5_pulls : MethodName := ⟨RX5, "pulls", "(II)I"⟩
abbrev cX5_roads : ByteArray := prog_7_method_34_code
def yX5_roads : MethodName := ⟨RX5, "roads", "(II)I"⟩
abbrev cX5_shod : ByteArray := prog_7_method_35_code
def yX5_shod : MethodName := ⟨RX5, "shod", "(I)I"⟩
abbrev cX5_sets : ByteArray := prog_7_method_36_code
def yX5_sets : MethodName := ⟨RX5, "sets", "(III)I"⟩
abbrev cX5_wants : ByteArray := prog_7_method_37_code
def yX5_wants : MethodName := ⟨RX5, "wants", "(II)I"⟩
abbrev cX5_stands : ByteArray := prog_7_method_38_code
def yX5_stands : MethodName := ⟨RX5, "stands", "(II)I"⟩
abbrev cX5_wrongBy : ByteArray := prog_7_method_39_code
def yX5_wrongBy : MethodName := ⟨RX5, "wrongBy", "(III)I"⟩
abbrev cX5_turn : ByteArray := prog_7_method_40_code
def yX5_turn : MethodName := ⟨RX5, "turn", "(III)I"⟩
abbrev cX5_days : ByteArray := prog_7_method_41_code
def yX5_days : MethodName := ⟨RX5, "days", "(I)I"⟩
abbrev cX5_takes : ByteArray := prog_7_method_42_code
def yX5_takes : MethodName := ⟨RX5, "takes", "(I)V"⟩
abbrev cX5_riderThen : ByteArray := prog_7_method_43_code
def yX5_riderThen : MethodName := ⟨RX5, "riderThen", "(III)I"⟩
abbrev cX5_comesIn : ByteArray := prog_7_method_44_code
def yX5_comesIn : MethodName := ⟨RX5, "comesIn", "(II)I"⟩
abbrev cX5_comesNow : ByteArray := prog_7_method_45_code
def yX5_comesNow : MethodName := ⟨RX5, "comesNow", "(II)I"⟩
abbrev cX5_areWrong : ByteArray := prog_7_method_46_code
def yX5_areWrong : MethodName := ⟨RX5, "areWrong", "(II)Z"⟩
abbrev cX5_comes : ByteArray := prog_7_method_47_code
def yX5_comes : MethodName := ⟨RX5, "comes", "(II)I"⟩
abbrev cX5_orNever : ByteArray := prog_7_method_48_code
def yX5_orNever : MethodName := ⟨RX5, "orNever", "(I)I"⟩
abbrev cX5_first : ByteArray := prog_7_method_49_code
def yX5_first : MethodName := ⟨RX5, "first", "(I)I"⟩
abbrev cX5_isResting : ByteArray := prog_7_method_50_code
def yX5_isResting : MethodName := ⟨RX5, "isResting", "(II)Z"⟩
abbrev cX5_rests : ByteArray := prog_7_method_51_code
def yX5_rests : MethodName := ⟨RX5, "rests", "(I)I"⟩
abbrev cX5_meet : ByteArray := prog_7_method_52_code
def yX5_meet : MethodName := ⟨RX5, "meet", "(III)I"⟩
abbrev cX5_arrived : ByteArray := prog_7_method_53_code
def yX5_arrived : MethodName := ⟨RX5, "arrived", "()I"⟩
abbrev cX5_shoe : ByteArray := prog_7_method_54_code
def yX5_shoe : MethodName := ⟨RX5, "shoe", "(III)I"⟩
abbrev cX5_wish : ByteArray := prog_7_method_55_code
def yX5_wish : MethodName := ⟨RX5, "wish", "(II)I"⟩
abbrev cX5_comesTurned : ByteArray := prog_7_method_56_code
def yX5_comesTurned : MethodName := ⟨RX5, "comesTurned", "(IIII)I"⟩
abbrev cX5_road : ByteArray := prog_7_method_57_code
def yX5_road : MethodName := ⟨RX5, "road", "(II)I"⟩
abbrev cX5_cut : ByteArray := prog_7_method_58_code
def yX5_cut : MethodName := ⟨RX5, "cut", "(II)I"⟩
abbrev cX5_inn : ByteArray := prog_7_method_59_code
def yX5_inn : MethodName := ⟨RX5, "inn", "(II)I"⟩
abbrev cX5_busiest : ByteArray := prog_7_method_60_code
def yX5_busiest : MethodName := ⟨RX5, "busiest", "()I"⟩
abbrev cX5_near : ByteArray := prog_7_method_61_code
def yX5_near : MethodName := ⟨RX5, "near", "(I)I"⟩
abbrev cX5_mostApart : ByteArray := prog_7_method_62_code
def yX5_mostApart : MethodName := ⟨RX5, "mostApart", "()I"⟩
abbrev cX5_apart : ByteArray := prog_7_method_63_code
def yX5_apart : MethodName := ⟨RX5, "apart", "(I)I"⟩
abbrev cX5_tired : ByteArray := prog_7_method_64_code
def yX5_tired : MethodName := ⟨RX5, "tired", "()I"⟩
abbrev cX5_truly : ByteArray := prog_7_method_65_code
def yX5_truly : MethodName := ⟨RX5, "truly", "(I)I"⟩
abbrev cX5_stepsLeft : ByteArray := prog_7_method_66_code
def yX5_stepsLeft : MethodName := ⟨RX5, "stepsLeft", "([II)I"⟩
abbrev cX5_totalIn : ByteArray := prog_7_method_67_code
def yX5_totalIn : MethodName := ⟨RX5, "totalIn", "()I"⟩
abbrev cX5_total : ByteArray := prog_7_method_68_code
def yX5_total : MethodName := ⟨RX5, "total", "(I)I"⟩
abbrev cX5_bare : ByteArray := prog_7_method_69_code
def yX5_bare : MethodName := ⟨RX5, "bare", "(I)I"⟩
abbrev cX5_costBy : ByteArray := prog_7_method_70_code
def yX5_costBy : MethodName := ⟨RX5, "costBy", "(IIIIII)I"⟩
abbrev cX5_two : ByteArray := prog_7_method_71_code
def yX5_two : MethodName := ⟨RX5, "two", "(III)I"⟩
abbrev cX5_gcd : ByteArray := prog_7_method_72_code
def yX5_gcd : MethodName := ⟨RX5, "gcd", "(JJ)J"⟩
abbrev cX5_partOf : ByteArray := prog_7_method_73_code
def yX5_partOf : MethodName := ⟨RX5, "partOf", "(JJI)J"⟩
abbrev cX5_mud : ByteArray := prog_7_method_74_code
def yX5_mud : MethodName := ⟨RX5, "mud", "(IIIII)J"⟩
abbrev cX5_sum : ByteArray := prog_7_method_75_code
def yX5_sum : MethodName := ⟨RX5, "sum", "(I)I"⟩
abbrev cX5_mean : ByteArray := prog_7_method_76_code
def yX5_mean : MethodName := ⟨RX5, "mean", "(I)J"⟩
abbrev cX5_whatWanted : ByteArray := prog_7_method_77_code
def yX5_whatWanted : MethodName := ⟨RX5, "whatWanted", "(II)I"⟩
abbrev cX5_row : ByteArray := prog_7_method_78_code
def yX5_row : MethodName := ⟨RX5, "row", "(I)I"⟩
abbrev cX5_judge : ByteArray := prog_7_method_79_code
def yX5_judge : MethodName := ⟨RX5, "judge", "()I"⟩
abbrev cX5_clear : ByteArray := prog_7_method_80_code
def yX5_clear : MethodName := ⟨RX5, "clear", "()I"⟩
abbrev cX5_drawn : ByteArray := prog_7_method_81_code
def yX5_drawn : MethodName := ⟨RX5, "drawn", "(I)I"⟩
abbrev cX5_lots : ByteArray := prog_7_method_82_code
def yX5_lots : MethodName := ⟨RX5, "lots", "(III)I"⟩
abbrev cX5_image : ByteArray := prog_7_method_83_code
def yX5_image : MethodName := ⟨RX5, "image", "()I"⟩
abbrev cX5_on : ByteArray := prog_7_method_84_code
def yX5_on : MethodName := ⟨RX5, "on", "()I"⟩
abbrev cX5_count : ByteArray := prog_7_method_85_code
def yX5_count : MethodName := ⟨RX5, "count", "(I)I"⟩
def RJ6 : String := "java/lang/Integer"
def TJ6 : u_T := fun k => match k with
  | _ => ("", "", "", false)
def tyJ6 : Nat → FieldType := fun k => match k with
  | _ => .int
abbrev wsJ60 : List Cond := u_ws RJ6 TJ6 0
theorem nmJ6 : ∀ a, a < 0 → ∀ b, b < 0 → a ≠ b → (TJ6 a).2.1 ≠ (TJ6 b).2.1 := by decide +kernel
theorem tyJ6_ok : ∀ k, k < 0 → parseFieldDescriptor (TJ6 k).2.2.1 = some (tyJ6 k) := by decide +kernel
abbrev cJ6_bitCount_0f7a4 : ByteArray := prog_8_method_49_code
def yJ6_bitCount_0f7a4 : MethodName := ⟨RJ6, "bitCount", "(I)I"⟩
def RJ9 : String := "java/lang/Math"
def TJ9 : u_T := fun k => match k with
  | _ => ("", "", "", false)
def tyJ9 : Nat → FieldType := fun k => match k with
  | _ => .int
abbrev wsJ90 : List Cond := u_ws RJ9 TJ9 0
theorem nmJ9 : ∀ a, a < 0 → ∀ b, b < 0 → a ≠ b → (TJ9 a).2.1 ≠ (TJ9 b).2.1 := by decide +kernel
theorem tyJ9_ok : ∀ k, k < 0 → parseFieldDescriptor (TJ9 k).2.2.1 = some (tyJ9 k) := by decide +kernel
abbrev cJ9_max_7cf53 : ByteArray := prog_9_method_65_code
def yJ9_max_7cf53 : MethodName := ⟨RJ9, "max", "(II)I"⟩
abbrev cJ9_min_7cf53 : ByteArray := prog_9_method_69_code
def yJ9_min_7cf53 : MethodName := ⟨RJ9, "min", "(II)I"⟩
def RJ10 : String := "java/lang/System"
def TJ10 : u_T := fun k => match k with
  | _ => ("", "", "", false)
def tyJ10 : Nat → FieldType := fun k => match k with
  | _ => .int
abbrev wsJ100 : List Cond := u_ws RJ10 TJ10 0
theorem nmJ10 : ∀ a, a < 0 → ∀ b, b < 0 → a ≠ b → (TJ10 a).2.1 ≠ (TJ10 b).2.1 := by decide +kernel
theorem tyJ10_ok : ∀ k, k < 0 → parseFieldDescriptor (TJ10 k).2.2.1 = some (tyJ10 k) := by decide +kernel
def RL : String := "ShodForTheRoadLaw"
abbrev cL_law : ByteArray := code
def yL_law : MethodName := ⟨RL, "law", "([I)Z"⟩
abbrev vwCl : List vw_C := [(RX0, TX0, 4), (RX1, TX1, 7), (RX2, TX2, 2), (RX3, TX3, 2), (RX4, TX4, 14), (RX5, TX5, 15)]
end
section
theorem dJ6_bitCount_0f7a4_0 : decode cJ6_bitCount_0f7a4 0 = .ok (.iload_n 0, 1) := by decide +kernel
theorem dJ6_bitCount_0f7a4_1 : decode cJ6_bitCount_0f7a4 1 = .ok (.iload_n 0, 1) := by decide +kernel
theorem dJ6_bitCount_0f7a4_2 : decode cJ6_bitCount_0f7a4 2 = .ok (.iconst 1, 1) := by decide +kernel
theorem dJ6_bitCount_0f7a4_3 : decode cJ6_bitCount_0f7a4 3 = .ok (.iushr, 1) := by decide +kernel
theorem dJ6_bitCount_0f7a4_4 : decode cJ6_bitCount_0f7a4 4 = .ok (.ldc_w 265, 3) := by decide +kernel
theorem dJ6_bitCount_0f7a4_7 : decode cJ6_bitCount_0f7a4 7 = .ok (.iand, 1) := by decide +kernel
theorem dJ6_bitCount_0f7a4_8 : decode cJ6_bitCount_0f7a4 8 = .ok (.isub, 1) := by decide +kernel
theorem dJ6_bitCount_0f7a4_9 : decode cJ6_bitCount_0f7a4 9 = .ok (.istore_n 0, 1) := by decide +kernel
theorem dJ6_bitCount_0f7a4_10 : decode cJ6_bitCount_0f7a4 10 = .ok (.iload_n 0, 1) := by decide +kernel
theorem dJ6_bitCount_0f7a4_11 : decode cJ6_bitCount_0f7a4 11 = .ok (.ldc_w 266, 3) := by decide +kernel
theorem dJ6_bitCount_0f7a4_14 : decode cJ6_bitCount_0f7a4 14 = .ok (.iand, 1) := by decide +kernel
theorem dJ6_bitCount_0f7a4_15 : decode cJ6_bitCount_0f7a4 15 = .ok (.iload_n 0, 1) := by decide +kernel
theorem dJ6_bitCount_0f7a4_16 : decode cJ6_bitCount_0f7a4 16 = .ok (.iconst 2, 1) := by decide +kernel
theorem dJ6_bitCount_0f7a4_17 : decode cJ6_bitCount_0f7a4 17 = .ok (.iushr, 1) := by decide +kernel
theorem dJ6_bitCount_0f7a4_18 : decode cJ6_bitCount_0f7a4 18 = .ok (.ldc_w 266, 3) := by decide +kernel
theorem dJ6_bitCount_0f7a4_21 : decode cJ6_bitCount_0f7a4 21 = .ok (.iand, 1) := by decide +kernel
theorem dJ6_bitCount_0f7a4_22 : decode cJ6_bitCount_0f7a4 22 = .ok (.iadd, 1) := by decide +kernel
theorem dJ6_bitCount_0f7a4_23 : decode cJ6_bitCount_0f7a4 23 = .ok (.istore_n 0, 1) := by decide +kernel
theorem dJ6_bitCount_0f7a4_24 : decode cJ6_bitCount_0f7a4 24 = .ok (.iload_n 0, 1) := by decide +kernel
theorem dJ6_bitCount_0f7a4_25 : decode cJ6_bitCount_0f7a4 25 = .ok (.iload_n 0, 1) := by decide +kernel
theorem dJ6_bitCount_0f7a4_26 : decode cJ6_bitCount_0f7a4 26 = .ok (.iconst 4, 1) := by decide +kernel
theorem dJ6_bitCount_0f7a4_27 : decode cJ6_bitCount_0f7a4 27 = .ok (.iushr, 1) := by decide +kernel
theorem dJ6_bitCount_0f7a4_28 : decode cJ6_bitCount_0f7a4 28 = .ok (.iadd, 1) := by decide +kernel
theorem dJ6_bitCount_0f7a4_29 : decode cJ6_bitCount_0f7a4 29 = .ok (.ldc_w 267, 3) := by decide +kernel
theorem dJ6_bitCount_0f7a4_32 : decode cJ6_bitCount_0f7a4 32 = .ok (.iand, 1) := by decide +kernel
theorem dJ6_bitCount_0f7a4_33 : decode cJ6_bitCount_0f7a4 33 = .ok (.istore_n 0, 1) := by decide +kernel
theorem dJ6_bitCount_0f7a4_34 : decode cJ6_bitCount_0f7a4 34 = .ok (.iload_n 0, 1) := by decide +kernel
theorem dJ6_bitCount_0f7a4_35 : decode cJ6_bitCount_0f7a4 35 = .ok (.iload_n 0, 1) := by decide +kernel
theorem dJ6_bitCount_0f7a4_36 : decode cJ6_bitCount_0f7a4 36 = .ok (.bipush 8, 2) := by decide +kernel
theorem dJ6_bitCount_0f7a4_38 : decode cJ6_bitCount_0f7a4 38 = .ok (.iushr, 1) := by decide +kernel
theorem dJ6_bitCount_0f7a4_39 : decode cJ6_bitCount_0f7a4 39 = .ok (.iadd, 1) := by decide +kernel
theorem dJ6_bitCount_0f7a4_40 : decode cJ6_bitCount_0f7a4 40 = .ok (.istore_n 0, 1) := by decide +kernel
theorem dJ6_bitCount_0f7a4_41 : decode cJ6_bitCount_0f7a4 41 = .ok (.iload_n 0, 1) := by decide +kernel
theorem dJ6_bitCount_0f7a4_42 : decode cJ6_bitCount_0f7a4 42 = .ok (.iload_n 0, 1) := by decide +kernel
theorem dJ6_bitCount_0f7a4_43 : decode cJ6_bitCount_0f7a4 43 = .ok (.bipush 16, 2) := by decide +kernel
theorem dJ6_bitCount_0f7a4_45 : decode cJ6_bitCount_0f7a4 45 = .ok (.iushr, 1) := by decide +kernel
theorem dJ6_bitCount_0f7a4_46 : decode cJ6_bitCount_0f7a4 46 = .ok (.iadd, 1) := by decide +kernel
theorem dJ6_bitCount_0f7a4_47 : decode cJ6_bitCount_0f7a4 47 = .ok (.istore_n 0, 1) := by decide +kernel
theorem dJ6_bitCount_0f7a4_48 : decode cJ6_bitCount_0f7a4 48 = .ok (.iload_n 0, 1) := by decide +kernel
theorem dJ6_bitCount_0f7a4_49 : decode cJ6_bitCount_0f7a4 49 = .ok (.bipush 63, 2) := by decide +kernel
theorem dJ6_bitCount_0f7a4_51 : decode cJ6_bitCount_0f7a4 51 = .ok (.iand, 1) := by decide +kernel
theorem dJ6_bitCount_0f7a4_52 : decode cJ6_bitCount_0f7a4 52 = .ok (.ireturn, 1) := by decide +kernel
theorem dJ9_max_7cf53_0 : decode cJ9_max_7cf53 0 = .ok (.iload_n 0, 1) := by decide +kernel
theorem dJ9_max_7cf53_1 : decode cJ9_max_7cf53 1 = .ok (.iload_n 1, 1) := by decide +kernel
theorem dJ9_max_7cf53_2 : decode cJ9_max_7cf53 2 = .ok (.if_icmp .lt 7, 3) := by decide +kernel
theorem dJ9_max_7cf53_5 : decode cJ9_max_7cf53 5 = .ok (.iload_n 0, 1) := by decide +kernel
theorem dJ9_max_7cf53_6 : decode cJ9_max_7cf53 6 = .ok (.goto 4, 3) := by decide +kernel
theorem dJ9_max_7cf53_9 : decode cJ9_max_7cf53 9 = .ok (.iload_n 1, 1) := by decide +kernel
theorem dJ9_max_7cf53_10 : decode cJ9_max_7cf53 10 = .ok (.ireturn, 1) := by decide +kernel
theorem dJ9_min_7cf53_0 : decode cJ9_min_7cf53 0 = .ok (.iload_n 0, 1) := by decide +kernel
theorem dJ9_min_7cf53_1 : decode cJ9_min_7cf53 1 = .ok (.iload_n 1, 1) := by decide +kernel
theorem dJ9_min_7cf53_2 : decode cJ9_min_7cf53 2 = .ok (.if_icmp .gt 7, 3) := by decide +kernel
theorem dJ9_min_7cf53_5 : decode cJ9_min_7cf53 5 = .ok (.iload_n 0, 1) := by decide +kernel
theorem dJ9_min_7cf53_6 : decode cJ9_min_7cf53 6 = .ok (.goto 4, 3) := by decide +kernel
theorem dJ9_min_7cf53_9 : decode cJ9_min_7cf53 9 = .ok (.iload_n 1, 1) := by decide +kernel
theorem dJ9_min_7cf53_10 : decode cJ9_min_7cf53 10 = .ok (.ireturn, 1) := by decide +kernel
theorem dX0_init_0 : decode cX0_init 0 = .ok (.aload_n 0, 1) := by decide +kernel
theorem dX0_init_1 : decode cX0_init 1 = .ok (.invokespecial 3, 3) := by decide +kernel
theorem dX0_init_4 : decode cX0_init 4 = .ok (.aload_n 0, 1) := by decide +kernel
theorem dX0_init_5 : decode cX0_init 5 = .ok (.new 9, 3) := by decide +kernel
theorem dX0_init_8 : decode cX0_init 8 = .ok (.dup, 1) := by decide +kernel
theorem dX0_init_9 : decode cX0_init 9 = .ok (.invokespecial 11, 3) := by decide +kernel
theorem dX0_init_12 : decode cX0_init 12 = .ok (.putfield 12, 3) := by decide +kernel
theorem dX0_init_15 : decode cX0_init 15 = .ok (.aload_n 0, 1) := by decide +kernel
theorem dX0_init_16 : decode cX0_init 16 = .ok (.bipush 6, 2) := by decide +kernel
theorem dX0_init_18 : decode cX0_init 18 = .ok (.anewarray 18, 3) := by decide +kernel
theorem dX0_init_21 : decode cX0_init 21 = .ok (.putfield 20, 3) := by decide +kernel
theorem dX0_init_24 : decode cX0_init 24 = .ok (.iconst 0, 1) := by decide +kernel
theorem dX0_init_25 : decode cX0_init 25 = .ok (.istore_n 1, 1) := by decide +kernel
theorem dX0_init_26 : decode cX0_init 26 = .ok (.iload_n 1, 1) := by decide +kernel
theorem dX0_init_27 : decode cX0_init 27 = .ok (.bipush 6, 2) := by decide +kernel
theorem dX0_init_29 : decode cX0_init 29 = .ok (.if_icmp .ge 22, 3) := by decide +kernel
theorem dX0_init_32 : decode cX0_init 32 = .ok (.aload_n 0, 1) := by decide +kernel
theorem dX0_init_33 : decode cX0_init 33 = .ok (.getfield 20, 3) := by decide +kernel
theorem dX0_init_36 : decode cX0_init 36 = .ok (.iload_n 1, 1) := by decide +kernel
theorem dX0_init_37 : decode cX0_init 37 = .ok (.new 18, 3) := by decide +kernel
theorem dX0_init_40 : decode cX0_init 40 = .ok (.dup, 1) := by decide +kernel
theorem dX0_init_41 : decode cX0_init 41 = .ok (.invokespecial 24, 3) := by decide +kernel
theorem dX0_init_44 : decode cX0_init 44 = .ok (.aastore, 1) := by decide +kernel
theorem dX0_init_45 : decode cX0_init 45 = .ok (.iinc 1 1, 3) := by decide +kernel
theorem dX0_init_48 : decode cX0_init 48 = .ok (.goto (-22), 3) := by decide +kernel
theorem dX0_init_51 : decode cX0_init 51 = .ok (.return_, 1) := by decide +kernel
theorem dX0_becomes_0 : decode cX0_becomes 0 = .ok (.aload_n 0, 1) := by decide +kernel
theorem dX0_becomes_1 : decode cX0_becomes 1 = .ok (.getfield 12, 3) := by decide +kernel
theorem dX0_becomes_4 : decode cX0_becomes 4 = .ok (.aload_n 1, 1) := by decide +kernel
theorem dX0_becomes_5 : decode cX0_becomes 5 = .ok (.getfield 12, 3) := by decide +kernel
theorem dX0_becomes_8 : decode cX0_becomes 8 = .ok (.invokevirtual 25, 3) := by decide +kernel
theorem dX0_becomes_11 : decode cX0_becomes 11 = .ok (.iconst 0, 1) := by decide +kernel
theorem dX0_becomes_12 : decode cX0_becomes 12 = .ok (.istore_n 2, 1) := by decide +kernel
theorem dX0_becomes_13 : decode cX0_becomes 13 = .ok (.iload_n 2, 1) := by decide +kernel
theorem dX0_becomes_14 : decode cX0_becomes 14 = .ok (.bipush 6, 2) := by decide +kernel
theorem dX0_becomes_16 : decode cX0_becomes 16 = .ok (.if_icmp .ge 24, 3) := by decide +kernel
theorem dX0_becomes_19 : decode cX0_becomes 19 = .ok (.aload_n 0, 1) := by decide +kernel
theorem dX0_becomes_20 : decode cX0_becomes 20 = .ok (.getfield 20, 3) := by decide +kernel
theorem dX0_becomes_23 : decode cX0_becomes 23 = .ok (.iload_n 2, 1) := by decide +kernel
theorem dX0_becomes_24 : decode cX0_becomes 24 = .ok (.aaload, 1) := by decide +kernel
theorem dX0_becomes_25 : decode cX0_becomes 25 = .ok (.aload_n 1, 1) := by decide +kernel
theorem dX0_becomes_26 : decode cX0_becomes 26 = .ok (.getfield 20, 3) := by decide +kernel
theorem dX0_becomes_29 : decode cX0_becomes 29 = .ok (.iload_n 2, 1) := by decide +kernel
theorem dX0_becomes_30 : decode cX0_becomes 30 = .ok (.aaload, 1) := by decide +kernel
theorem dX0_becomes_31 : decode cX0_becomes 31 = .ok (.invokevirtual 29, 3) := by decide +kernel
theorem dX0_becomes_34 : decode cX0_becomes 34 = .ok (.iinc 2 1, 3) := by decide +kernel
theorem dX0_becomes_37 : decode cX0_becomes 37 = .ok (.goto (-24), 3) := by decide +kernel
theorem dX0_becomes_40 : decode cX0_becomes 40 = .ok (.aload_n 0, 1) := by decide +kernel
theorem dX0_becomes_41 : decode cX0_becomes 41 = .ok (.aload_n 1, 1) := by decide +kernel
theorem dX0_becomes_42 : decode cX0_becomes 42 = .ok (.getfield 32, 3) := by decide +kernel
theorem dX0_becomes_45 : decode cX0_becomes 45 = .ok (.putfield 32, 3) := by decide +kernel
theorem dX0_becomes_48 : decode cX0_becomes 48 = .ok (.aload_n 0, 1) := by decide +kernel
theorem dX0_becomes_49 : decode cX0_becomes 49 = .ok (.aload_n 1, 1) := by decide +kernel
theorem dX0_becomes_50 : decode cX0_becomes 50 = .ok (.getfield 36, 3) := by decide +kernel
theorem dX0_becomes_53 : decode cX0_becomes 53 = .ok (.putfield 36, 3) := by decide +kernel
theorem dX0_becomes_56 : decode cX0_becomes 56 = .ok (.return_, 1) := by decide +kernel
theorem dX0_hasRider_0 : decode cX0_hasRider 0 = .ok (.iload_n 1, 1) := by decide +kernel
theorem dX0_hasRider_1 : decode cX0_hasRider 1 = .ok (.ifCond .lt 21, 3) := by decide +kernel
theorem dX0_hasRider_4 : decode cX0_hasRider 4 = .ok (.iload_n 1, 1) := by decide +kernel
theorem dX0_hasRider_5 : decode cX0_hasRider 5 = .ok (.aload_n 0, 1) := by decide +kernel
theorem dX0_hasRider_6 : decode cX0_hasRider 6 = .ok (.getfield 32, 3) := by decide +kernel
theorem dX0_hasRider_9 : decode cX0_hasRider 9 = .ok (.if_icmp .ge 13, 3) := by decide +kernel
theorem dX0_hasRider_12 : decode cX0_hasRider 12 = .ok (.iload_n 1, 1) := by decide +kernel
theorem dX0_hasRider_13 : decode cX0_hasRider 13 = .ok (.bipush 6, 2) := by decide +kernel
theorem dX0_hasRider_15 : decode cX0_hasRider 15 = .ok (.if_icmp .ge 7, 3) := by decide +kernel
theorem dX0_hasRider_18 : decode cX0_hasRider 18 = .ok (.iconst 1, 1) := by decide +kernel
theorem dX0_hasRider_19 : decode cX0_hasRider 19 = .ok (.goto 4, 3) := by decide +kernel
theorem dX0_hasRider_22 : decode cX0_hasRider 22 = .ok (.iconst 0, 1) := by decide +kernel
theorem dX0_hasRider_23 : decode cX0_hasRider 23 = .ok (.ireturn, 1) := by decide +kernel
theorem dX0_changeRoad_0 : decode cX0_changeRoad 0 = .ok (.iload_n 1, 1) := by decide +kernel
theorem dX0_changeRoad_1 : decode cX0_changeRoad 1 = .ok (.invokestatic 39, 3) := by decide +kernel
theorem dX0_changeRoad_4 : decode cX0_changeRoad 4 = .ok (.ifCond .eq 15, 3) := by decide +kernel
theorem dX0_changeRoad_7 : decode cX0_changeRoad 7 = .ok (.iload_n 2, 1) := by decide +kernel
theorem dX0_changeRoad_8 : decode cX0_changeRoad 8 = .ok (.invokestatic 39, 3) := by decide +kernel
theorem dX0_changeRoad_11 : decode cX0_changeRoad 11 = .ok (.ifCond .eq 8, 3) := by decide +kernel
theorem dX0_changeRoad_14 : decode cX0_changeRoad 14 = .ok (.iload_n 1, 1) := by decide +kernel
theorem dX0_changeRoad_15 : decode cX0_changeRoad 15 = .ok (.iload_n 2, 1) := by decide +kernel
theorem dX0_changeRoad_16 : decode cX0_changeRoad 16 = .ok (.if_icmp .ne 5, 3) := by decide +kernel
theorem dX0_changeRoad_19 : decode cX0_changeRoad 19 = .ok (.iconst 0, 1) := by decide +kernel
theorem dX0_changeRoad_20 : decode cX0_changeRoad 20 = .ok (.ireturn, 1) := by decide +kernel
theorem dX0_changeRoad_21 : decode cX0_changeRoad 21 = .ok (.aload_n 0, 1) := by decide +kernel
theorem dX0_changeRoad_22 : decode cX0_changeRoad 22 = .ok (.getfield 12, 3) := by decide +kernel
theorem dX0_changeRoad_25 : decode cX0_changeRoad 25 = .ok (.iload_n 1, 1) := by decide +kernel
theorem dX0_changeRoad_26 : decode cX0_changeRoad 26 = .ok (.iload_n 2, 1) := by decide +kernel
theorem dX0_changeRoad_27 : decode cX0_changeRoad 27 = .ok (.invokevirtual 43, 3) := by decide +kernel
theorem dX0_changeRoad_30 : decode cX0_changeRoad 30 = .ok (.iconst 1, 1) := by decide +kernel
theorem dX0_changeRoad_31 : decode cX0_changeRoad 31 = .ok (.ireturn, 1) := by decide +kernel
theorem dX0_addRider_0 : decode cX0_addRider 0 = .ok (.aload_n 0, 1) := by decide +kernel
theorem dX0_addRider_1 : decode cX0_addRider 1 = .ok (.getfield 32, 3) := by decide +kernel
theorem dX0_addRider_4 : decode cX0_addRider 4 = .ok (.bipush 6, 2) := by decide +kernel
theorem dX0_addRider_6 : decode cX0_addRider 6 = .ok (.if_icmp .ge 26, 3) := by decide +kernel
theorem dX0_addRider_9 : decode cX0_addRider 9 = .ok (.iload_n 3, 1) := by decide +kernel
theorem dX0_addRider_10 : decode cX0_addRider 10 = .ok (.invokestatic 39, 3) := by decide +kernel
theorem dX0_addRider_13 : decode cX0_addRider 13 = .ok (.ifCond .eq 19, 3) := by decide +kernel
theorem dX0_addRider_16 : decode cX0_addRider 16 = .ok (.iload 4, 2) := by decide +kernel
theorem dX0_addRider_18 : decode cX0_addRider 18 = .ok (.invokestatic 39, 3) := by decide +kernel
theorem dX0_addRider_21 : decode cX0_addRider 21 = .ok (.ifCond .eq 11, 3) := by decide +kernel
theorem dX0_addRider_24 : decode cX0_addRider 24 = .ok (.iload 5, 2) := by decide +kernel
theorem dX0_addRider_26 : decode cX0_addRider 26 = .ok (.invokestatic 39, 3) := by decide +kernel
theorem dX0_addRider_29 : decode cX0_addRider 29 = .ok (.ifCond .ne 5, 3) := by decide +kernel
theorem dX0_addRider_32 : decode cX0_addRider 32 = .ok (.iconst 0, 1) := by decide +kernel
theorem dX0_addRider_33 : decode cX0_addRider 33 = .ok (.ireturn, 1) := by decide +kernel
theorem dX0_addRider_34 : decode cX0_addRider 34 = .ok (.aload_n 0, 1) := by decide +kernel
theorem dX0_addRider_35 : decode cX0_addRider 35 = .ok (.getfield 20, 3) := by decide +kernel
theorem dX0_addRider_38 : decode cX0_addRider 38 = .ok (.aload_n 0, 1) := by decide +kernel
theorem dX0_addRider_39 : decode cX0_addRider 39 = .ok (.getfield 32, 3) := by decide +kernel
theorem dX0_addRider_42 : decode cX0_addRider 42 = .ok (.aaload, 1) := by decide +kernel
theorem dX0_addRider_43 : decode cX0_addRider 43 = .ok (.astore 6, 2) := by decide +kernel
theorem dX0_addRider_45 : decode cX0_addRider 45 = .ok (.aload 6, 2) := by decide +kernel
theorem dX0_addRider_47 : decode cX0_addRider 47 = .ok (.iload_n 1, 1) := by decide +kernel
theorem dX0_addRider_48 : decode cX0_addRider 48 = .ok (.putfield 47, 3) := by decide +kernel
theorem dX0_addRider_51 : decode cX0_addRider 51 = .ok (.aload 6, 2) := by decide +kernel
theorem dX0_addRider_53 : decode cX0_addRider 53 = .ok (.iload_n 2, 1) := by decide +kernel
theorem dX0_addRider_54 : decode cX0_addRider 54 = .ok (.putfield 50, 3) := by decide +kernel
theorem dX0_addRider_57 : decode cX0_addRider 57 = .ok (.aload 6, 2) := by decide +kernel
theorem dX0_addRider_59 : decode cX0_addRider 59 = .ok (.iload_n 3, 1) := by decide +kernel
theorem dX0_addRider_60 : decode cX0_addRider 60 = .ok (.putfield 53, 3) := by decide +kernel
theorem dX0_addRider_63 : decode cX0_addRider 63 = .ok (.aload 6, 2) := by decide +kernel
theorem dX0_addRider_65 : decode cX0_addRider 65 = .ok (.iload 4, 2) := by decide +kernel
theorem dX0_addRider_67 : decode cX0_addRider 67 = .ok (.putfield 56, 3) := by decide +kernel
theorem dX0_addRider_70 : decode cX0_addRider 70 = .ok (.aload 6, 2) := by decide +kernel
theorem dX0_addRider_72 : decode cX0_addRider 72 = .ok (.iload 5, 2) := by decide +kernel
theorem dX0_addRider_74 : decode cX0_addRider 74 = .ok (.putfield 59, 3) := by decide +kernel
theorem dX0_addRider_77 : decode cX0_addRider 77 = .ok (.aload 6, 2) := by decide +kernel
theorem dX0_addRider_79 : decode cX0_addRider 79 = .ok (.invokevirtual 62, 3) := by decide +kernel
theorem dX0_addRider_82 : decode cX0_addRider 82 = .ok (.aload_n 0, 1) := by decide +kernel
theorem dX0_addRider_83 : decode cX0_addRider 83 = .ok (.dup, 1) := by decide +kernel
theorem dX0_addRider_84 : decode cX0_addRider 84 = .ok (.getfield 32, 3) := by decide +kernel
theorem dX0_addRider_87 : decode cX0_addRider 87 = .ok (.iconst 1, 1) := by decide +kernel
theorem dX0_addRider_88 : decode cX0_addRider 88 = .ok (.iadd, 1) := by decide +kernel
theorem dX0_addRider_89 : decode cX0_addRider 89 = .ok (.putfield 32, 3) := by decide +kernel
theorem dX0_addRider_92 : decode cX0_addRider 92 = .ok (.iconst 1, 1) := by decide +kernel
theorem dX0_addRider_93 : decode cX0_addRider 93 = .ok (.ireturn, 1) := by decide +kernel
theorem dX0_shoeAnew_0 : decode cX0_shoeAnew 0 = .ok (.aload_n 0, 1) := by decide +kernel
theorem dX0_shoeAnew_1 : decode cX0_shoeAnew 1 = .ok (.iload_n 1, 1) := by decide +kernel
theorem dX0_shoeAnew_2 : decode cX0_shoeAnew 2 = .ok (.invokevirtual 65, 3) := by decide +kernel
theorem dX0_shoeAnew_5 : decode cX0_shoeAnew 5 = .ok (.ifCond .ne 5, 3) := by decide +kernel
theorem dX0_shoeAnew_8 : decode cX0_shoeAnew 8 = .ok (.iconst 0, 1) := by decide +kernel
theorem dX0_shoeAnew_9 : decode cX0_shoeAnew 9 = .ok (.ireturn, 1) := by decide +kernel
theorem dX0_shoeAnew_10 : decode cX0_shoeAnew 10 = .ok (.aload_n 0, 1) := by decide +kernel
theorem dX0_shoeAnew_11 : decode cX0_shoeAnew 11 = .ok (.getfield 20, 3) := by decide +kernel
theorem dX0_shoeAnew_14 : decode cX0_shoeAnew 14 = .ok (.iload_n 1, 1) := by decide +kernel
theorem dX0_shoeAnew_15 : decode cX0_shoeAnew 15 = .ok (.aaload, 1) := by decide +kernel
theorem dX0_shoeAnew_16 : decode cX0_shoeAnew 16 = .ok (.invokevirtual 62, 3) := by decide +kernel
theorem dX0_shoeAnew_19 : decode cX0_shoeAnew 19 = .ok (.iconst 1, 1) := by decide +kernel
theorem dX0_shoeAnew_20 : decode cX0_shoeAnew 20 = .ok (.ireturn, 1) := by decide +kernel
theorem dX0_setGoal_0 : decode cX0_setGoal 0 = .ok (.aload_n 0, 1) := by decide +kernel
theorem dX0_setGoal_1 : decode cX0_setGoal 1 = .ok (.iload_n 1, 1) := by decide +kernel
theorem dX0_setGoal_2 : decode cX0_setGoal 2 = .ok (.invokevirtual 65, 3) := by decide +kernel
theorem dX0_setGoal_5 : decode cX0_setGoal 5 = .ok (.ifCond .eq 10, 3) := by decide +kernel
theorem dX0_setGoal_8 : decode cX0_setGoal 8 = .ok (.iload_n 2, 1) := by decide +kernel
theorem dX0_setGoal_9 : decode cX0_setGoal 9 = .ok (.invokestatic 39, 3) := by decide +kernel
theorem dX0_setGoal_12 : decode cX0_setGoal 12 = .ok (.ifCond .ne 5, 3) := by decide +kernel
theorem dX0_setGoal_15 : decode cX0_setGoal 15 = .ok (.iconst 0, 1) := by decide +kernel
theorem dX0_setGoal_16 : decode cX0_setGoal 16 = .ok (.ireturn, 1) := by decide +kernel
theorem dX0_setGoal_17 : decode cX0_setGoal 17 = .ok (.aload_n 0, 1) := by decide +kernel
theorem dX0_setGoal_18 : decode cX0_setGoal 18 = .ok (.getfield 20, 3) := by decide +kernel
theorem dX0_setGoal_21 : decode cX0_setGoal 21 = .ok (.iload_n 1, 1) := by decide +kernel
theorem dX0_setGoal_22 : decode cX0_setGoal 22 = .ok (.aaload, 1) := by decide +kernel
theorem dX0_setGoal_23 : decode cX0_setGoal 23 = .ok (.iload_n 2, 1) := by decide +kernel
theorem dX0_setGoal_24 : decode cX0_setGoal 24 = .ok (.putfield 53, 3) := by decide +kernel
theorem dX0_setGoal_27 : decode cX0_setGoal 27 = .ok (.iconst 1, 1) := by decide +kernel
theorem dX0_setGoal_28 : decode cX0_setGoal 28 = .ok (.ireturn, 1) := by decide +kernel
theorem dX0_setAt_0 : decode cX0_setAt 0 = .ok (.aload_n 0, 1) := by decide +kernel
theorem dX0_setAt_1 : decode cX0_setAt 1 = .ok (.iload_n 1, 1) := by decide +kernel
theorem dX0_setAt_2 : decode cX0_setAt 2 = .ok (.invokevirtual 65, 3) := by decide +kernel
theorem dX0_setAt_5 : decode cX0_setAt 5 = .ok (.ifCond .eq 10, 3) := by decide +kernel
theorem dX0_setAt_8 : decode cX0_setAt 8 = .ok (.iload_n 2, 1) := by decide +kernel
theorem dX0_setAt_9 : decode cX0_setAt 9 = .ok (.invokestatic 39, 3) := by decide +kernel
theorem dX0_setAt_12 : decode cX0_setAt 12 = .ok (.ifCond .ne 5, 3) := by decide +kernel
theorem dX0_setAt_15 : decode cX0_setAt 15 = .ok (.iconst 0, 1) := by decide +kernel
theorem dX0_setAt_16 : decode cX0_setAt 16 = .ok (.ireturn, 1) := by decide +kernel
theorem dX0_setAt_17 : decode cX0_setAt 17 = .ok (.aload_n 0, 1) := by decide +kernel
theorem dX0_setAt_18 : decode cX0_setAt 18 = .ok (.getfield 20, 3) := by decide +kernel
theorem dX0_setAt_21 : decode cX0_setAt 21 = .ok (.iload_n 1, 1) := by decide +kernel
theorem dX0_setAt_22 : decode cX0_setAt 22 = .ok (.aaload, 1) := by decide +kernel
theorem dX0_setAt_23 : decode cX0_setAt 23 = .ok (.iload_n 2, 1) := by decide +kernel
theorem dX0_setAt_24 : decode cX0_setAt 24 = .ok (.putfield 59, 3) := by decide +kernel
theorem dX0_setAt_27 : decode cX0_setAt 27 = .ok (.iconst 1, 1) := by decide +kernel
theorem dX0_setAt_28 : decode cX0_setAt 28 = .ok (.ireturn, 1) := by decide +kernel
theorem dX0_passDays_0 : decode cX0_passDays 0 = .ok (.iload_n 1, 1) := by decide +kernel
theorem dX0_passDays_1 : decode cX0_passDays 1 = .ok (.iconst 1, 1) := by decide +kernel
theorem dX0_passDays_2 : decode cX0_passDays 2 = .ok (.if_icmp .lt 21, 3) := by decide +kernel
theorem dX0_passDays_5 : decode cX0_passDays 5 = .ok (.iload_n 1, 1) := by decide +kernel
theorem dX0_passDays_6 : decode cX0_passDays 6 = .ok (.bipush 60, 2) := by decide +kernel
theorem dX0_passDays_8 : decode cX0_passDays 8 = .ok (.if_icmp .gt 15, 3) := by decide +kernel
theorem dX0_passDays_11 : decode cX0_passDays 11 = .ok (.aload_n 0, 1) := by decide +kernel
theorem dX0_passDays_12 : decode cX0_passDays 12 = .ok (.getfield 36, 3) := by decide +kernel
theorem dX0_passDays_15 : decode cX0_passDays 15 = .ok (.iload_n 1, 1) := by decide +kernel
theorem dX0_passDays_16 : decode cX0_passDays 16 = .ok (.iadd, 1) := by decide +kernel
theorem dX0_passDays_17 : decode cX0_passDays 17 = .ok (.sipush 999, 3) := by decide +kernel
theorem dX0_passDays_20 : decode cX0_passDays 20 = .ok (.if_icmp .le 5, 3) := by decide +kernel
theorem dX0_passDays_23 : decode cX0_passDays 23 = .ok (.iconst 0, 1) := by decide +kernel
theorem dX0_passDays_24 : decode cX0_passDays 24 = .ok (.ireturn, 1) := by decide +kernel
theorem dX0_passDays_25 : decode cX0_passDays 25 = .ok (.aload_n 0, 1) := by decide +kernel
theorem dX0_passDays_26 : decode cX0_passDays 26 = .ok (.dup, 1) := by decide +kernel
theorem dX0_passDays_27 : decode cX0_passDays 27 = .ok (.getfield 36, 3) := by decide +kernel
theorem dX0_passDays_30 : decode cX0_passDays 30 = .ok (.iload_n 1, 1) := by decide +kernel
theorem dX0_passDays_31 : decode cX0_passDays 31 = .ok (.iadd, 1) := by decide +kernel
theorem dX0_passDays_32 : decode cX0_passDays 32 = .ok (.putfield 36, 3) := by decide +kernel
theorem dX0_passDays_35 : decode cX0_passDays 35 = .ok (.iconst 0, 1) := by decide +kernel
theorem dX0_passDays_36 : decode cX0_passDays 36 = .ok (.istore_n 2, 1) := by decide +kernel
theorem dX0_passDays_37 : decode cX0_passDays 37 = .ok (.iload_n 2, 1) := by decide +kernel
theorem dX0_passDays_38 : decode cX0_passDays 38 = .ok (.aload_n 0, 1) := by decide +kernel
theorem dX0_passDays_39 : decode cX0_passDays 39 = .ok (.getfield 32, 3) := by decide +kernel
theorem dX0_passDays_42 : decode cX0_passDays 42 = .ok (.if_icmp .ge 35, 3) := by decide +kernel
theorem dX0_passDays_45 : decode cX0_passDays 45 = .ok (.iconst 0, 1) := by decide +kernel
theorem dX0_passDays_46 : decode cX0_passDays 46 = .ok (.istore_n 3, 1) := by decide +kernel
theorem dX0_passDays_47 : decode cX0_passDays 47 = .ok (.iload_n 3, 1) := by decide +kernel
theorem dX0_passDays_48 : decode cX0_passDays 48 = .ok (.iload_n 1, 1) := by decide +kernel
theorem dX0_passDays_49 : decode cX0_passDays 49 = .ok (.if_icmp .ge 22, 3) := by decide +kernel
theorem dX0_passDays_52 : decode cX0_passDays 52 = .ok (.aload_n 0, 1) := by decide +kernel
theorem dX0_passDays_53 : decode cX0_passDays 53 = .ok (.getfield 20, 3) := by decide +kernel
theorem dX0_passDays_56 : decode cX0_passDays 56 = .ok (.iload_n 2, 1) := by decide +kernel
theorem dX0_passDays_57 : decode cX0_passDays 57 = .ok (.aaload, 1) := by decide +kernel
theorem dX0_passDays_58 : decode cX0_passDays 58 = .ok (.aload_n 0, 1) := by decide +kernel
theorem dX0_passDays_59 : decode cX0_passDays 59 = .ok (.getfield 12, 3) := by decide +kernel
theorem dX0_passDays_62 : decode cX0_passDays 62 = .ok (.invokevirtual 68, 3) := by decide +kernel
theorem dX0_passDays_65 : decode cX0_passDays 65 = .ok (.iinc 3 1, 3) := by decide +kernel
theorem dX0_passDays_68 : decode cX0_passDays 68 = .ok (.goto (-21), 3) := by decide +kernel
theorem dX0_passDays_71 : decode cX0_passDays 71 = .ok (.iinc 2 1, 3) := by decide +kernel
theorem dX0_passDays_74 : decode cX0_passDays 74 = .ok (.goto (-37), 3) := by decide +kernel
theorem dX0_passDays_77 : decode cX0_passDays 77 = .ok (.iconst 1, 1) := by decide +kernel
theorem dX0_passDays_78 : decode cX0_passDays 78 = .ok (.ireturn, 1) := by decide +kernel
theorem dX0_arrivedBits_0 : decode cX0_arrivedBits 0 = .ok (.iconst 0, 1) := by decide +kernel
theorem dX0_arrivedBits_1 : decode cX0_arrivedBits 1 = .ok (.istore_n 1, 1) := by decide +kernel
theorem dX0_arrivedBits_2 : decode cX0_arrivedBits 2 = .ok (.iconst 0, 1) := by decide +kernel
theorem dX0_arrivedBits_3 : decode cX0_arrivedBits 3 = .ok (.istore_n 2, 1) := by decide +kernel
theorem dX0_arrivedBits_4 : decode cX0_arrivedBits 4 = .ok (.iload_n 2, 1) := by decide +kernel
theorem dX0_arrivedBits_5 : decode cX0_arrivedBits 5 = .ok (.aload_n 0, 1) := by decide +kernel
theorem dX0_arrivedBits_6 : decode cX0_arrivedBits 6 = .ok (.getfield 32, 3) := by decide +kernel
theorem dX0_arrivedBits_9 : decode cX0_arrivedBits 9 = .ok (.if_icmp .ge 27, 3) := by decide +kernel
theorem dX0_arrivedBits_12 : decode cX0_arrivedBits 12 = .ok (.aload_n 0, 1) := by decide +kernel
theorem dX0_arrivedBits_13 : decode cX0_arrivedBits 13 = .ok (.getfield 20, 3) := by decide +kernel
theorem dX0_arrivedBits_16 : decode cX0_arrivedBits 16 = .ok (.iload_n 2, 1) := by decide +kernel
theorem dX0_arrivedBits_17 : decode cX0_arrivedBits 17 = .ok (.aaload, 1) := by decide +kernel
theorem dX0_arrivedBits_18 : decode cX0_arrivedBits 18 = .ok (.invokevirtual 71, 3) := by decide +kernel
theorem dX0_arrivedBits_21 : decode cX0_arrivedBits 21 = .ok (.ifCond .eq 9, 3) := by decide +kernel
theorem dX0_arrivedBits_24 : decode cX0_arrivedBits 24 = .ok (.iload_n 1, 1) := by decide +kernel
theorem dX0_arrivedBits_25 : decode cX0_arrivedBits 25 = .ok (.iconst 1, 1) := by decide +kernel
theorem dX0_arrivedBits_26 : decode cX0_arrivedBits 26 = .ok (.iload_n 2, 1) := by decide +kernel
theorem dX0_arrivedBits_27 : decode cX0_arrivedBits 27 = .ok (.ishl, 1) := by decide +kernel
theorem dX0_arrivedBits_28 : decode cX0_arrivedBits 28 = .ok (.ior, 1) := by decide +kernel
theorem dX0_arrivedBits_29 : decode cX0_arrivedBits 29 = .ok (.istore_n 1, 1) := by decide +kernel
theorem dX0_arrivedBits_30 : decode cX0_arrivedBits 30 = .ok (.iinc 2 1, 3) := by decide +kernel
theorem dX0_arrivedBits_33 : decode cX0_arrivedBits 33 = .ok (.goto (-29), 3) := by decide +kernel
theorem dX0_arrivedBits_36 : decode cX0_arrivedBits 36 = .ok (.iload_n 1, 1) := by decide +kernel
theorem dX0_arrivedBits_37 : decode cX0_arrivedBits 37 = .ok (.ireturn, 1) := by decide +kernel
theorem dX0_honestBits_0 : decode cX0_honestBits 0 = .ok (.iconst 0, 1) := by decide +kernel
theorem dX0_honestBits_1 : decode cX0_honestBits 1 = .ok (.istore_n 1, 1) := by decide +kernel
theorem dX0_honestBits_2 : decode cX0_honestBits 2 = .ok (.iconst 0, 1) := by decide +kernel
theorem dX0_honestBits_3 : decode cX0_honestBits 3 = .ok (.istore_n 2, 1) := by decide +kernel
theorem dX0_honestBits_4 : decode cX0_honestBits 4 = .ok (.iload_n 2, 1) := by decide +kernel
theorem dX0_honestBits_5 : decode cX0_honestBits 5 = .ok (.aload_n 0, 1) := by decide +kernel
theorem dX0_honestBits_6 : decode cX0_honestBits 6 = .ok (.getfield 32, 3) := by decide +kernel
theorem dX0_honestBits_9 : decode cX0_honestBits 9 = .ok (.if_icmp .ge 36, 3) := by decide +kernel
theorem dX0_honestBits_12 : decode cX0_honestBits 12 = .ok (.aload_n 0, 1) := by decide +kernel
theorem dX0_honestBits_13 : decode cX0_honestBits 13 = .ok (.getfield 20, 3) := by decide +kernel
theorem dX0_honestBits_16 : decode cX0_honestBits 16 = .ok (.iload_n 2, 1) := by decide +kernel
theorem dX0_honestBits_17 : decode cX0_honestBits 17 = .ok (.aaload, 1) := by decide +kernel
theorem dX0_honestBits_18 : decode cX0_honestBits 18 = .ok (.getfield 53, 3) := by decide +kernel
theorem dX0_honestBits_21 : decode cX0_honestBits 21 = .ok (.aload_n 0, 1) := by decide +kernel
theorem dX0_honestBits_22 : decode cX0_honestBits 22 = .ok (.getfield 20, 3) := by decide +kernel
theorem dX0_honestBits_25 : decode cX0_honestBits 25 = .ok (.iload_n 2, 1) := by decide +kernel
theorem dX0_honestBits_26 : decode cX0_honestBits 26 = .ok (.aaload, 1) := by decide +kernel
theorem dX0_honestBits_27 : decode cX0_honestBits 27 = .ok (.getfield 56, 3) := by decide +kernel
theorem dX0_honestBits_30 : decode cX0_honestBits 30 = .ok (.if_icmp .ne 9, 3) := by decide +kernel
theorem dX0_honestBits_33 : decode cX0_honestBits 33 = .ok (.iload_n 1, 1) := by decide +kernel
theorem dX0_honestBits_34 : decode cX0_honestBits 34 = .ok (.iconst 1, 1) := by decide +kernel
theorem dX0_honestBits_35 : decode cX0_honestBits 35 = .ok (.iload_n 2, 1) := by decide +kernel
theorem dX0_honestBits_36 : decode cX0_honestBits 36 = .ok (.ishl, 1) := by decide +kernel
theorem dX0_honestBits_37 : decode cX0_honestBits 37 = .ok (.ior, 1) := by decide +kernel
theorem dX0_honestBits_38 : decode cX0_honestBits 38 = .ok (.istore_n 1, 1) := by decide +kernel
theorem dX0_honestBits_39 : decode cX0_honestBits 39 = .ok (.iinc 2 1, 3) := by decide +kernel
theorem dX0_honestBits_42 : decode cX0_honestBits 42 = .ok (.goto (-38), 3) := by decide +kernel
theorem dX0_honestBits_45 : decode cX0_honestBits 45 = .ok (.iload_n 1, 1) := by decide +kernel
theorem dX0_honestBits_46 : decode cX0_honestBits 46 = .ok (.ireturn, 1) := by decide +kernel
theorem dX0_lostBits_0 : decode cX0_lostBits 0 = .ok (.iconst 0, 1) := by decide +kernel
theorem dX0_lostBits_1 : decode cX0_lostBits 1 = .ok (.istore_n 1, 1) := by decide +kernel
theorem dX0_lostBits_2 : decode cX0_lostBits 2 = .ok (.iconst 0, 1) := by decide +kernel
theorem dX0_lostBits_3 : decode cX0_lostBits 3 = .ok (.istore_n 2, 1) := by decide +kernel
theorem dX0_lostBits_4 : decode cX0_lostBits 4 = .ok (.iload_n 2, 1) := by decide +kernel
theorem dX0_lostBits_5 : decode cX0_lostBits 5 = .ok (.aload_n 0, 1) := by decide +kernel
theorem dX0_lostBits_6 : decode cX0_lostBits 6 = .ok (.getfield 32, 3) := by decide +kernel
theorem dX0_lostBits_9 : decode cX0_lostBits 9 = .ok (.if_icmp .ge 33, 3) := by decide +kernel
theorem dX0_lostBits_12 : decode cX0_lostBits 12 = .ok (.aload_n 0, 1) := by decide +kernel
theorem dX0_lostBits_13 : decode cX0_lostBits 13 = .ok (.getfield 20, 3) := by decide +kernel
theorem dX0_lostBits_16 : decode cX0_lostBits 16 = .ok (.iload_n 2, 1) := by decide +kernel
theorem dX0_lostBits_17 : decode cX0_lostBits 17 = .ok (.aaload, 1) := by decide +kernel
theorem dX0_lostBits_18 : decode cX0_lostBits 18 = .ok (.aload_n 0, 1) := by decide +kernel
theorem dX0_lostBits_19 : decode cX0_lostBits 19 = .ok (.getfield 12, 3) := by decide +kernel
theorem dX0_lostBits_22 : decode cX0_lostBits 22 = .ok (.invokevirtual 75, 3) := by decide +kernel
theorem dX0_lostBits_25 : decode cX0_lostBits 25 = .ok (.bipush 9, 2) := by decide +kernel
theorem dX0_lostBits_27 : decode cX0_lostBits 27 = .ok (.if_icmp .ne 9, 3) := by decide +kernel
theorem dX0_lostBits_30 : decode cX0_lostBits 30 = .ok (.iload_n 1, 1) := by decide +kernel
theorem dX0_lostBits_31 : decode cX0_lostBits 31 = .ok (.iconst 1, 1) := by decide +kernel
theorem dX0_lostBits_32 : decode cX0_lostBits 32 = .ok (.iload_n 2, 1) := by decide +kernel
theorem dX0_lostBits_33 : decode cX0_lostBits 33 = .ok (.ishl, 1) := by decide +kernel
theorem dX0_lostBits_34 : decode cX0_lostBits 34 = .ok (.ior, 1) := by decide +kernel
theorem dX0_lostBits_35 : decode cX0_lostBits 35 = .ok (.istore_n 1, 1) := by decide +kernel
theorem dX0_lostBits_36 : decode cX0_lostBits 36 = .ok (.iinc 2 1, 3) := by decide +kernel
theorem dX0_lostBits_39 : decode cX0_lostBits 39 = .ok (.goto (-35), 3) := by decide +kernel
theorem dX0_lostBits_42 : decode cX0_lostBits 42 = .ok (.iload_n 1, 1) := by decide +kernel
theorem dX0_lostBits_43 : decode cX0_lostBits 43 = .ok (.ireturn, 1) := by decide +kernel
theorem dX0_allShoes_0 : decode cX0_allShoes 0 = .ok (.iconst 0, 1) := by decide +kernel
theorem dX0_allShoes_1 : decode cX0_allShoes 1 = .ok (.istore_n 1, 1) := by decide +kernel
theorem dX0_allShoes_2 : decode cX0_allShoes 2 = .ok (.iconst 0, 1) := by decide +kernel
theorem dX0_allShoes_3 : decode cX0_allShoes 3 = .ok (.istore_n 2, 1) := by decide +kernel
theorem dX0_allShoes_4 : decode cX0_allShoes 4 = .ok (.iload_n 2, 1) := by decide +kernel
theorem dX0_allShoes_5 : decode cX0_allShoes 5 = .ok (.aload_n 0, 1) := by decide +kernel
theorem dX0_allShoes_6 : decode cX0_allShoes 6 = .ok (.getfield 32, 3) := by decide +kernel
theorem dX0_allShoes_9 : decode cX0_allShoes 9 = .ok (.if_icmp .ge 21, 3) := by decide +kernel
theorem dX0_allShoes_12 : decode cX0_allShoes 12 = .ok (.iload_n 1, 1) := by decide +kernel
theorem dX0_allShoes_13 : decode cX0_allShoes 13 = .ok (.aload_n 0, 1) := by decide +kernel
theorem dX0_allShoes_14 : decode cX0_allShoes 14 = .ok (.getfield 20, 3) := by decide +kernel
theorem dX0_allShoes_17 : decode cX0_allShoes 17 = .ok (.iload_n 2, 1) := by decide +kernel
theorem dX0_allShoes_18 : decode cX0_allShoes 18 = .ok (.aaload, 1) := by decide +kernel
theorem dX0_allShoes_19 : decode cX0_allShoes 19 = .ok (.getfield 79, 3) := by decide +kernel
theorem dX0_allShoes_22 : decode cX0_allShoes 22 = .ok (.iadd, 1) := by decide +kernel
theorem dX0_allShoes_23 : decode cX0_allShoes 23 = .ok (.istore_n 1, 1) := by decide +kernel
theorem dX0_allShoes_24 : decode cX0_allShoes 24 = .ok (.iinc 2 1, 3) := by decide +kernel
theorem dX0_allShoes_27 : decode cX0_allShoes 27 = .ok (.goto (-23), 3) := by decide +kernel
theorem dX0_allShoes_30 : decode cX0_allShoes 30 = .ok (.iload_n 1, 1) := by decide +kernel
theorem dX0_allShoes_31 : decode cX0_allShoes 31 = .ok (.ireturn, 1) := by decide +kernel
theorem dX0_allWorn_0 : decode cX0_allWorn 0 = .ok (.iconst 0, 1) := by decide +kernel
theorem dX0_allWorn_1 : decode cX0_allWorn 1 = .ok (.istore_n 1, 1) := by decide +kernel
theorem dX0_allWorn_2 : decode cX0_allWorn 2 = .ok (.iconst 0, 1) := by decide +kernel
theorem dX0_allWorn_3 : decode cX0_allWorn 3 = .ok (.istore_n 2, 1) := by decide +kernel
theorem dX0_allWorn_4 : decode cX0_allWorn 4 = .ok (.iload_n 2, 1) := by decide +kernel
theorem dX0_allWorn_5 : decode cX0_allWorn 5 = .ok (.aload_n 0, 1) := by decide +kernel
theorem dX0_allWorn_6 : decode cX0_allWorn 6 = .ok (.getfield 32, 3) := by decide +kernel
theorem dX0_allWorn_9 : decode cX0_allWorn 9 = .ok (.if_icmp .ge 21, 3) := by decide +kernel
theorem dX0_allWorn_12 : decode cX0_allWorn 12 = .ok (.iload_n 1, 1) := by decide +kernel
theorem dX0_allWorn_13 : decode cX0_allWorn 13 = .ok (.aload_n 0, 1) := by decide +kernel
theorem dX0_allWorn_14 : decode cX0_allWorn 14 = .ok (.getfield 20, 3) := by decide +kernel
theorem dX0_allWorn_17 : decode cX0_allWorn 17 = .ok (.iload_n 2, 1) := by decide +kernel
theorem dX0_allWorn_18 : decode cX0_allWorn 18 = .ok (.aaload, 1) := by decide +kernel
theorem dX0_allWorn_19 : decode cX0_allWorn 19 = .ok (.getfield 82, 3) := by decide +kernel
theorem dX0_allWorn_22 : decode cX0_allWorn 22 = .ok (.iadd, 1) := by decide +kernel
theorem dX0_allWorn_23 : decode cX0_allWorn 23 = .ok (.istore_n 1, 1) := by decide +kernel
theorem dX0_allWorn_24 : decode cX0_allWorn 24 = .ok (.iinc 2 1, 3) := by decide +kernel
theorem dX0_allWorn_27 : decode cX0_allWorn 27 = .ok (.goto (-23), 3) := by decide +kernel
theorem dX0_allWorn_30 : decode cX0_allWorn 30 = .ok (.iload_n 1, 1) := by decide +kernel
theorem dX0_allWorn_31 : decode cX0_allWorn 31 = .ok (.ireturn, 1) := by decide +kernel
theorem dX1_init_0 : decode cX1_init 0 = .ok (.aload_n 0, 1) := by decide +kernel
theorem dX1_init_1 : decode cX1_init 1 = .ok (.invokespecial 3, 3) := by decide +kernel
theorem dX1_init_4 : decode cX1_init 4 = .ok (.return_, 1) := by decide +kernel
theorem dX1_becomes_0 : decode cX1_becomes 0 = .ok (.aload_n 0, 1) := by decide +kernel
theorem dX1_becomes_1 : decode cX1_becomes 1 = .ok (.aload_n 1, 1) := by decide +kernel
theorem dX1_becomes_2 : decode cX1_becomes 2 = .ok (.getfield 9, 3) := by decide +kernel
theorem dX1_becomes_5 : decode cX1_becomes 5 = .ok (.putfield 9, 3) := by decide +kernel
theorem dX1_becomes_8 : decode cX1_becomes 8 = .ok (.aload_n 0, 1) := by decide +kernel
theorem dX1_becomes_9 : decode cX1_becomes 9 = .ok (.aload_n 1, 1) := by decide +kernel
theorem dX1_becomes_10 : decode cX1_becomes 10 = .ok (.getfield 15, 3) := by decide +kernel
theorem dX1_becomes_13 : decode cX1_becomes 13 = .ok (.putfield 15, 3) := by decide +kernel
theorem dX1_becomes_16 : decode cX1_becomes 16 = .ok (.aload_n 0, 1) := by decide +kernel
theorem dX1_becomes_17 : decode cX1_becomes 17 = .ok (.aload_n 1, 1) := by decide +kernel
theorem dX1_becomes_18 : decode cX1_becomes 18 = .ok (.getfield 18, 3) := by decide +kernel
theorem dX1_becomes_21 : decode cX1_becomes 21 = .ok (.putfield 18, 3) := by decide +kernel
theorem dX1_becomes_24 : decode cX1_becomes 24 = .ok (.aload_n 0, 1) := by decide +kernel
theorem dX1_becomes_25 : decode cX1_becomes 25 = .ok (.aload_n 1, 1) := by decide +kernel
theorem dX1_becomes_26 : decode cX1_becomes 26 = .ok (.getfield 21, 3) := by decide +kernel
theorem dX1_becomes_29 : decode cX1_becomes 29 = .ok (.putfield 21, 3) := by decide +kernel
theorem dX1_becomes_32 : decode cX1_becomes 32 = .ok (.aload_n 0, 1) := by decide +kernel
theorem dX1_becomes_33 : decode cX1_becomes 33 = .ok (.aload_n 1, 1) := by decide +kernel
theorem dX1_becomes_34 : decode cX1_becomes 34 = .ok (.getfield 24, 3) := by decide +kernel
theorem dX1_becomes_37 : decode cX1_becomes 37 = .ok (.putfield 24, 3) := by decide +kernel
theorem dX1_becomes_40 : decode cX1_becomes 40 = .ok (.aload_n 0, 1) := by decide +kernel
theorem dX1_becomes_41 : decode cX1_becomes 41 = .ok (.aload_n 1, 1) := by decide +kernel
theorem dX1_becomes_42 : decode cX1_becomes 42 = .ok (.getfield 27, 3) := by decide +kernel
theorem dX1_becomes_45 : decode cX1_becomes 45 = .ok (.putfield 27, 3) := by decide +kernel
theorem dX1_becomes_48 : decode cX1_becomes 48 = .ok (.aload_n 0, 1) := by decide +kernel
theorem dX1_becomes_49 : decode cX1_becomes 49 = .ok (.aload_n 1, 1) := by decide +kernel
theorem dX1_becomes_50 : decode cX1_becomes 50 = .ok (.getfield 30, 3) := by decide +kernel
theorem dX1_becomes_53 : decode cX1_becomes 53 = .ok (.putfield 30, 3) := by decide +kernel
theorem dX1_becomes_56 : decode cX1_becomes 56 = .ok (.return_, 1) := by decide +kernel
theorem dX1_shoeAnew_0 : decode cX1_shoeAnew 0 = .ok (.aload_n 0, 1) := by decide +kernel
theorem dX1_shoeAnew_1 : decode cX1_shoeAnew 1 = .ok (.aload_n 0, 1) := by decide +kernel
theorem dX1_shoeAnew_2 : decode cX1_shoeAnew 2 = .ok (.getfield 9, 3) := by decide +kernel
theorem dX1_shoeAnew_5 : decode cX1_shoeAnew 5 = .ok (.invokestatic 33, 3) := by decide +kernel
theorem dX1_shoeAnew_8 : decode cX1_shoeAnew 8 = .ok (.putfield 27, 3) := by decide +kernel
theorem dX1_shoeAnew_11 : decode cX1_shoeAnew 11 = .ok (.aload_n 0, 1) := by decide +kernel
theorem dX1_shoeAnew_12 : decode cX1_shoeAnew 12 = .ok (.iconst 0, 1) := by decide +kernel
theorem dX1_shoeAnew_13 : decode cX1_shoeAnew 13 = .ok (.putfield 30, 3) := by decide +kernel
theorem dX1_shoeAnew_16 : decode cX1_shoeAnew 16 = .ok (.return_, 1) := by decide +kernel
theorem dX1_daysForShoe_0 : decode cX1_daysForShoe 0 = .ok (.aload_n 0, 1) := by decide +kernel
theorem dX1_daysForShoe_1 : decode cX1_daysForShoe 1 = .ok (.getfield 9, 3) := by decide +kernel
theorem dX1_daysForShoe_4 : decode cX1_daysForShoe 4 = .ok (.aload_n 0, 1) := by decide +kernel
theorem dX1_daysForShoe_5 : decode cX1_daysForShoe 5 = .ok (.getfield 15, 3) := by decide +kernel
theorem dX1_daysForShoe_8 : decode cX1_daysForShoe 8 = .ok (.invokestatic 37, 3) := by decide +kernel
theorem dX1_daysForShoe_11 : decode cX1_daysForShoe 11 = .ok (.ireturn, 1) := by decide +kernel
theorem dX1_wearIron_0 : decode cX1_wearIron 0 = .ok (.aload_n 0, 1) := by decide +kernel
theorem dX1_wearIron_1 : decode cX1_wearIron 1 = .ok (.aload_n 0, 1) := by decide +kernel
theorem dX1_wearIron_2 : decode cX1_wearIron 2 = .ok (.getfield 30, 3) := by decide +kernel
theorem dX1_wearIron_5 : decode cX1_wearIron 5 = .ok (.iconst 1, 1) := by decide +kernel
theorem dX1_wearIron_6 : decode cX1_wearIron 6 = .ok (.iadd, 1) := by decide +kernel
theorem dX1_wearIron_7 : decode cX1_wearIron 7 = .ok (.bipush 99, 2) := by decide +kernel
theorem dX1_wearIron_9 : decode cX1_wearIron 9 = .ok (.invokestatic 41, 3) := by decide +kernel
theorem dX1_wearIron_12 : decode cX1_wearIron 12 = .ok (.putfield 30, 3) := by decide +kernel
theorem dX1_wearIron_15 : decode cX1_wearIron 15 = .ok (.aload_n 0, 1) := by decide +kernel
theorem dX1_wearIron_16 : decode cX1_wearIron 16 = .ok (.invokevirtual 46, 3) := by decide +kernel
theorem dX1_wearIron_19 : decode cX1_wearIron 19 = .ok (.istore_n 1, 1) := by decide +kernel
theorem dX1_wearIron_20 : decode cX1_wearIron 20 = .ok (.iload_n 1, 1) := by decide +kernel
theorem dX1_wearIron_21 : decode cX1_wearIron 21 = .ok (.ifCond .le 29, 3) := by decide +kernel
theorem dX1_wearIron_24 : decode cX1_wearIron 24 = .ok (.aload_n 0, 1) := by decide +kernel
theorem dX1_wearIron_25 : decode cX1_wearIron 25 = .ok (.getfield 30, 3) := by decide +kernel
theorem dX1_wearIron_28 : decode cX1_wearIron 28 = .ok (.iload_n 1, 1) := by decide +kernel
theorem dX1_wearIron_29 : decode cX1_wearIron 29 = .ok (.irem, 1) := by decide +kernel
theorem dX1_wearIron_30 : decode cX1_wearIron 30 = .ok (.ifCond .ne 20, 3) := by decide +kernel
theorem dX1_wearIron_33 : decode cX1_wearIron 33 = .ok (.aload_n 0, 1) := by decide +kernel
theorem dX1_wearIron_34 : decode cX1_wearIron 34 = .ok (.getfield 27, 3) := by decide +kernel
theorem dX1_wearIron_37 : decode cX1_wearIron 37 = .ok (.ifCond .le 13, 3) := by decide +kernel
theorem dX1_wearIron_40 : decode cX1_wearIron 40 = .ok (.aload_n 0, 1) := by decide +kernel
theorem dX1_wearIron_41 : decode cX1_wearIron 41 = .ok (.dup, 1) := by decide +kernel
theorem dX1_wearIron_42 : decode cX1_wearIron 42 = .ok (.getfield 27, 3) := by decide +kernel
theorem dX1_wearIron_45 : decode cX1_wearIron 45 = .ok (.iconst 1, 1) := by decide +kernel
theorem dX1_wearIron_46 : decode cX1_wearIron 46 = .ok (.isub, 1) := by decide +kernel
theorem dX1_wearIron_47 : decode cX1_wearIron 47 = .ok (.putfield 27, 3) := by decide +kernel
theorem dX1_wearIron_50 : decode cX1_wearIron 50 = .ok (.return_, 1) := by decide +kernel
theorem dX1_pullOf_0 : decode cX1_pullOf 0 = .ok (.aload_n 0, 1) := by decide +kernel
theorem dX1_pullOf_1 : decode cX1_pullOf 1 = .ok (.getfield 27, 3) := by decide +kernel
theorem dX1_pullOf_4 : decode cX1_pullOf 4 = .ok (.aload_n 1, 1) := by decide +kernel
theorem dX1_pullOf_5 : decode cX1_pullOf 5 = .ok (.iload_n 2, 1) := by decide +kernel
theorem dX1_pullOf_6 : decode cX1_pullOf 6 = .ok (.aload_n 0, 1) := by decide +kernel
theorem dX1_pullOf_7 : decode cX1_pullOf 7 = .ok (.getfield 18, 3) := by decide +kernel
theorem dX1_pullOf_10 : decode cX1_pullOf 10 = .ok (.invokevirtual 50, 3) := by decide +kernel
theorem dX1_pullOf_13 : decode cX1_pullOf 13 = .ok (.imul, 1) := by decide +kernel
theorem dX1_pullOf_14 : decode cX1_pullOf 14 = .ok (.iconst 4, 1) := by decide +kernel
theorem dX1_pullOf_15 : decode cX1_pullOf 15 = .ok (.aload_n 0, 1) := by decide +kernel
theorem dX1_pullOf_16 : decode cX1_pullOf 16 = .ok (.getfield 27, 3) := by decide +kernel
theorem dX1_pullOf_19 : decode cX1_pullOf 19 = .ok (.isub, 1) := by decide +kernel
theorem dX1_pullOf_20 : decode cX1_pullOf 20 = .ok (.aload_n 1, 1) := by decide +kernel
theorem dX1_pullOf_21 : decode cX1_pullOf 21 = .ok (.iload_n 2, 1) := by decide +kernel
theorem dX1_pullOf_22 : decode cX1_pullOf 22 = .ok (.aload_n 0, 1) := by decide +kernel
theorem dX1_pullOf_23 : decode cX1_pullOf 23 = .ok (.getfield 21, 3) := by decide +kernel
theorem dX1_pullOf_26 : decode cX1_pullOf 26 = .ok (.invokevirtual 50, 3) := by decide +kernel
theorem dX1_pullOf_29 : decode cX1_pullOf 29 = .ok (.imul, 1) := by decide +kernel
theorem dX1_pullOf_30 : decode cX1_pullOf 30 = .ok (.iadd, 1) := by decide +kernel
theorem dX1_pullOf_31 : decode cX1_pullOf 31 = .ok (.ireturn, 1) := by decide +kernel
theorem dX1_nextFrom_0 : decode cX1_nextFrom 0 = .ok (.iload_n 2, 1) := by decide +kernel
theorem dX1_nextFrom_1 : decode cX1_nextFrom 1 = .ok (.istore_n 3, 1) := by decide +kernel
theorem dX1_nextFrom_2 : decode cX1_nextFrom 2 = .ok (.aload_n 0, 1) := by decide +kernel
theorem dX1_nextFrom_3 : decode cX1_nextFrom 3 = .ok (.aload_n 1, 1) := by decide +kernel
theorem dX1_nextFrom_4 : decode cX1_nextFrom 4 = .ok (.iload_n 2, 1) := by decide +kernel
theorem dX1_nextFrom_5 : decode cX1_nextFrom 5 = .ok (.invokevirtual 55, 3) := by decide +kernel
theorem dX1_nextFrom_8 : decode cX1_nextFrom 8 = .ok (.istore 4, 2) := by decide +kernel
theorem dX1_nextFrom_10 : decode cX1_nextFrom 10 = .ok (.iconst 0, 1) := by decide +kernel
theorem dX1_nextFrom_11 : decode cX1_nextFrom 11 = .ok (.istore 5, 2) := by decide +kernel
theorem dX1_nextFrom_13 : decode cX1_nextFrom 13 = .ok (.iload 5, 2) := by decide +kernel
theorem dX1_nextFrom_15 : decode cX1_nextFrom 15 = .ok (.bipush 8, 2) := by decide +kernel
theorem dX1_nextFrom_17 : decode cX1_nextFrom 17 = .ok (.if_icmp .ge 43, 3) := by decide +kernel
theorem dX1_nextFrom_20 : decode cX1_nextFrom 20 = .ok (.aload_n 1, 1) := by decide +kernel
theorem dX1_nextFrom_21 : decode cX1_nextFrom 21 = .ok (.iload_n 2, 1) := by decide +kernel
theorem dX1_nextFrom_22 : decode cX1_nextFrom 22 = .ok (.iload 5, 2) := by decide +kernel
theorem dX1_nextFrom_24 : decode cX1_nextFrom 24 = .ok (.invokevirtual 59, 3) := by decide +kernel
theorem dX1_nextFrom_27 : decode cX1_nextFrom 27 = .ok (.ifCond .eq 27, 3) := by decide +kernel
theorem dX1_nextFrom_30 : decode cX1_nextFrom 30 = .ok (.aload_n 0, 1) := by decide +kernel
theorem dX1_nextFrom_31 : decode cX1_nextFrom 31 = .ok (.aload_n 1, 1) := by decide +kernel
theorem dX1_nextFrom_32 : decode cX1_nextFrom 32 = .ok (.iload 5, 2) := by decide +kernel
theorem dX1_nextFrom_34 : decode cX1_nextFrom 34 = .ok (.invokevirtual 55, 3) := by decide +kernel
theorem dX1_nextFrom_37 : decode cX1_nextFrom 37 = .ok (.iload 4, 2) := by decide +kernel
theorem dX1_nextFrom_39 : decode cX1_nextFrom 39 = .ok (.if_icmp .ge 15, 3) := by decide +kernel
theorem dX1_nextFrom_42 : decode cX1_nextFrom 42 = .ok (.aload_n 0, 1) := by decide +kernel
theorem dX1_nextFrom_43 : decode cX1_nextFrom 43 = .ok (.aload_n 1, 1) := by decide +kernel
theorem dX1_nextFrom_44 : decode cX1_nextFrom 44 = .ok (.iload 5, 2) := by decide +kernel
theorem dX1_nextFrom_46 : decode cX1_nextFrom 46 = .ok (.invokevirtual 55, 3) := by decide +kernel
theorem dX1_nextFrom_49 : decode cX1_nextFrom 49 = .ok (.istore 4, 2) := by decide +kernel
theorem dX1_nextFrom_51 : decode cX1_nextFrom 51 = .ok (.iload 5, 2) := by decide +kernel
theorem dX1_nextFrom_53 : decode cX1_nextFrom 53 = .ok (.istore_n 3, 1) := by decide +kernel
theorem dX1_nextFrom_54 : decode cX1_nextFrom 54 = .ok (.iinc 5 1, 3) := by decide +kernel
theorem dX1_nextFrom_57 : decode cX1_nextFrom 57 = .ok (.goto (-44), 3) := by decide +kernel
theorem dX1_nextFrom_60 : decode cX1_nextFrom 60 = .ok (.iload_n 3, 1) := by decide +kernel
theorem dX1_nextFrom_61 : decode cX1_nextFrom 61 = .ok (.ireturn, 1) := by decide +kernel
theorem dX1_rideDay_0 : decode cX1_rideDay 0 = .ok (.aload_n 0, 1) := by decide +kernel
theorem dX1_rideDay_1 : decode cX1_rideDay 1 = .ok (.invokevirtual 63, 3) := by decide +kernel
theorem dX1_rideDay_4 : decode cX1_rideDay 4 = .ok (.aload_n 0, 1) := by decide +kernel
theorem dX1_rideDay_5 : decode cX1_rideDay 5 = .ok (.aload_n 0, 1) := by decide +kernel
theorem dX1_rideDay_6 : decode cX1_rideDay 6 = .ok (.aload_n 1, 1) := by decide +kernel
theorem dX1_rideDay_7 : decode cX1_rideDay 7 = .ok (.aload_n 0, 1) := by decide +kernel
theorem dX1_rideDay_8 : decode cX1_rideDay 8 = .ok (.getfield 24, 3) := by decide +kernel
theorem dX1_rideDay_11 : decode cX1_rideDay 11 = .ok (.invokevirtual 66, 3) := by decide +kernel
theorem dX1_rideDay_14 : decode cX1_rideDay 14 = .ok (.putfield 24, 3) := by decide +kernel
theorem dX1_rideDay_17 : decode cX1_rideDay 17 = .ok (.return_, 1) := by decide +kernel
theorem dX1_rideDays_0 : decode cX1_rideDays 0 = .ok (.iconst 0, 1) := by decide +kernel
theorem dX1_rideDays_1 : decode cX1_rideDays 1 = .ok (.istore_n 3, 1) := by decide +kernel
theorem dX1_rideDays_2 : decode cX1_rideDays 2 = .ok (.iload_n 3, 1) := by decide +kernel
theorem dX1_rideDays_3 : decode cX1_rideDays 3 = .ok (.iload_n 2, 1) := by decide +kernel
theorem dX1_rideDays_4 : decode cX1_rideDays 4 = .ok (.if_icmp .ge 14, 3) := by decide +kernel
theorem dX1_rideDays_7 : decode cX1_rideDays 7 = .ok (.aload_n 0, 1) := by decide +kernel
theorem dX1_rideDays_8 : decode cX1_rideDays 8 = .ok (.aload_n 1, 1) := by decide +kernel
theorem dX1_rideDays_9 : decode cX1_rideDays 9 = .ok (.invokevirtual 69, 3) := by decide +kernel
theorem dX1_rideDays_12 : decode cX1_rideDays 12 = .ok (.iinc 3 1, 3) := by decide +kernel
theorem dX1_rideDays_15 : decode cX1_rideDays 15 = .ok (.goto (-13), 3) := by decide +kernel
theorem dX1_rideDays_18 : decode cX1_rideDays 18 = .ok (.return_, 1) := by decide +kernel
theorem dX1_daysUntilAt_0 : decode cX1_daysUntilAt 0 = .ok (.iconst 0, 1) := by decide +kernel
theorem dX1_daysUntilAt_1 : decode cX1_daysUntilAt 1 = .ok (.istore_n 3, 1) := by decide +kernel
theorem dX1_daysUntilAt_2 : decode cX1_daysUntilAt 2 = .ok (.iload_n 3, 1) := by decide +kernel
theorem dX1_daysUntilAt_3 : decode cX1_daysUntilAt 3 = .ok (.bipush 60, 2) := by decide +kernel
theorem dX1_daysUntilAt_5 : decode cX1_daysUntilAt 5 = .ok (.if_icmp .gt 24, 3) := by decide +kernel
theorem dX1_daysUntilAt_8 : decode cX1_daysUntilAt 8 = .ok (.aload_n 0, 1) := by decide +kernel
theorem dX1_daysUntilAt_9 : decode cX1_daysUntilAt 9 = .ok (.getfield 24, 3) := by decide +kernel
theorem dX1_daysUntilAt_12 : decode cX1_daysUntilAt 12 = .ok (.iload_n 2, 1) := by decide +kernel
theorem dX1_daysUntilAt_13 : decode cX1_daysUntilAt 13 = .ok (.if_icmp .ne 5, 3) := by decide +kernel
theorem dX1_daysUntilAt_16 : decode cX1_daysUntilAt 16 = .ok (.iload_n 3, 1) := by decide +kernel
theorem dX1_daysUntilAt_17 : decode cX1_daysUntilAt 17 = .ok (.ireturn, 1) := by decide +kernel
theorem dX1_daysUntilAt_18 : decode cX1_daysUntilAt 18 = .ok (.aload_n 0, 1) := by decide +kernel
theorem dX1_daysUntilAt_19 : decode cX1_daysUntilAt 19 = .ok (.aload_n 1, 1) := by decide +kernel
theorem dX1_daysUntilAt_20 : decode cX1_daysUntilAt 20 = .ok (.invokevirtual 69, 3) := by decide +kernel
theorem dX1_daysUntilAt_23 : decode cX1_daysUntilAt 23 = .ok (.iinc 3 1, 3) := by decide +kernel
theorem dX1_daysUntilAt_26 : decode cX1_daysUntilAt 26 = .ok (.goto (-24), 3) := by decide +kernel
theorem dX1_daysUntilAt_29 : decode cX1_daysUntilAt 29 = .ok (.bipush 61, 2) := by decide +kernel
theorem dX1_daysUntilAt_31 : decode cX1_daysUntilAt 31 = .ok (.ireturn, 1) := by decide +kernel
theorem dX1_stepsToGo_0 : decode cX1_stepsToGo 0 = .ok (.aload_n 1, 1) := by decide +kernel
theorem dX1_stepsToGo_1 : decode cX1_stepsToGo 1 = .ok (.aload_n 0, 1) := by decide +kernel
theorem dX1_stepsToGo_2 : decode cX1_stepsToGo 2 = .ok (.getfield 24, 3) := by decide +kernel
theorem dX1_stepsToGo_5 : decode cX1_stepsToGo 5 = .ok (.aload_n 0, 1) := by decide +kernel
theorem dX1_stepsToGo_6 : decode cX1_stepsToGo 6 = .ok (.getfield 21, 3) := by decide +kernel
theorem dX1_stepsToGo_9 : decode cX1_stepsToGo 9 = .ok (.invokevirtual 50, 3) := by decide +kernel
theorem dX1_stepsToGo_12 : decode cX1_stepsToGo 12 = .ok (.ireturn, 1) := by decide +kernel
theorem dX1_isWhereHeSays_0 : decode cX1_isWhereHeSays 0 = .ok (.aload_n 0, 1) := by decide +kernel
theorem dX1_isWhereHeSays_1 : decode cX1_isWhereHeSays 1 = .ok (.getfield 24, 3) := by decide +kernel
theorem dX1_isWhereHeSays_4 : decode cX1_isWhereHeSays 4 = .ok (.aload_n 0, 1) := by decide +kernel
theorem dX1_isWhereHeSays_5 : decode cX1_isWhereHeSays 5 = .ok (.getfield 21, 3) := by decide +kernel
theorem dX1_isWhereHeSays_8 : decode cX1_isWhereHeSays 8 = .ok (.if_icmp .ne 7, 3) := by decide +kernel
theorem dX1_isWhereHeSays_11 : decode cX1_isWhereHeSays 11 = .ok (.iconst 1, 1) := by decide +kernel
theorem dX1_isWhereHeSays_12 : decode cX1_isWhereHeSays 12 = .ok (.goto 4, 3) := by decide +kernel
theorem dX1_isWhereHeSays_15 : decode cX1_isWhereHeSays 15 = .ok (.iconst 0, 1) := by decide +kernel
theorem dX1_isWhereHeSays_16 : decode cX1_isWhereHeSays 16 = .ok (.ireturn, 1) := by decide +kernel
theorem dX2_init_0 : decode cX2_init 0 = .ok (.aload_n 0, 1) := by decide +kernel
theorem dX2_init_1 : decode cX2_init 1 = .ok (.invokespecial 3, 3) := by decide +kernel
theorem dX2_init_4 : decode cX2_init 4 = .ok (.aload_n 0, 1) := by decide +kernel
theorem dX2_init_5 : decode cX2_init 5 = .ok (.bipush 8, 2) := by decide +kernel
theorem dX2_init_7 : decode cX2_init 7 = .ok (.newarray .int, 2) := by decide +kernel
theorem dX2_init_9 : decode cX2_init 9 = .ok (.putfield 9, 3) := by decide +kernel
theorem dX2_init_12 : decode cX2_init 12 = .ok (.aload_n 0, 1) := by decide +kernel
theorem dX2_init_13 : decode cX2_init 13 = .ok (.bipush 64, 2) := by decide +kernel
theorem dX2_init_15 : decode cX2_init 15 = .ok (.newarray .int, 2) := by decide +kernel
theorem dX2_init_17 : decode cX2_init 17 = .ok (.putfield 15, 3) := by decide +kernel
theorem dX2_init_20 : decode cX2_init 20 = .ok (.aload_n 0, 1) := by decide +kernel
theorem dX2_init_21 : decode cX2_init 21 = .ok (.invokevirtual 18, 3) := by decide +kernel
theorem dX2_init_24 : decode cX2_init 24 = .ok (.return_, 1) := by decide +kernel
theorem dX2_becomes_0 : decode cX2_becomes 0 = .ok (.aload_n 1, 1) := by decide +kernel
theorem dX2_becomes_1 : decode cX2_becomes 1 = .ok (.getfield 9, 3) := by decide +kernel
theorem dX2_becomes_4 : decode cX2_becomes 4 = .ok (.iconst 0, 1) := by decide +kernel
theorem dX2_becomes_5 : decode cX2_becomes 5 = .ok (.aload_n 0, 1) := by decide +kernel
theorem dX2_becomes_6 : decode cX2_becomes 6 = .ok (.getfield 9, 3) := by decide +kernel
theorem dX2_becomes_9 : decode cX2_becomes 9 = .ok (.iconst 0, 1) := by decide +kernel
theorem dX2_becomes_10 : decode cX2_becomes 10 = .ok (.bipush 8, 2) := by decide +kernel
theorem dX2_becomes_12 : decode cX2_becomes 12 = .ok (.invokestatic 21, 3) := by decide +kernel
theorem dX2_becomes_15 : decode cX2_becomes 15 = .ok (.aload_n 1, 1) := by decide +kernel
theorem dX2_becomes_16 : decode cX2_becomes 16 = .ok (.getfield 15, 3) := by decide +kernel
theorem dX2_becomes_19 : decode cX2_becomes 19 = .ok (.iconst 0, 1) := by decide +kernel
theorem dX2_becomes_20 : decode cX2_becomes 20 = .ok (.aload_n 0, 1) := by decide +kernel
theorem dX2_becomes_21 : decode cX2_becomes 21 = .ok (.getfield 15, 3) := by decide +kernel
theorem dX2_becomes_24 : decode cX2_becomes 24 = .ok (.iconst 0, 1) := by decide +kernel
theorem dX2_becomes_25 : decode cX2_becomes 25 = .ok (.bipush 64, 2) := by decide +kernel
theorem dX2_becomes_27 : decode cX2_becomes 27 = .ok (.invokestatic 21, 3) := by decide +kernel
theorem dX2_becomes_30 : decode cX2_becomes 30 = .ok (.return_, 1) := by decide +kernel
theorem dX2_joins_0 : decode cX2_joins 0 = .ok (.iload_n 1, 1) := by decide +kernel
theorem dX2_joins_1 : decode cX2_joins 1 = .ok (.invokestatic 27, 3) := by decide +kernel
theorem dX2_joins_4 : decode cX2_joins 4 = .ok (.ifCond .eq 28, 3) := by decide +kernel
theorem dX2_joins_7 : decode cX2_joins 7 = .ok (.iload_n 2, 1) := by decide +kernel
theorem dX2_joins_8 : decode cX2_joins 8 = .ok (.invokestatic 27, 3) := by decide +kernel
theorem dX2_joins_11 : decode cX2_joins 11 = .ok (.ifCond .eq 21, 3) := by decide +kernel
theorem dX2_joins_14 : decode cX2_joins 14 = .ok (.aload_n 0, 1) := by decide +kernel
theorem dX2_joins_15 : decode cX2_joins 15 = .ok (.getfield 9, 3) := by decide +kernel
theorem dX2_joins_18 : decode cX2_joins 18 = .ok (.iload_n 1, 1) := by decide +kernel
theorem dX2_joins_19 : decode cX2_joins 19 = .ok (.iaload, 1) := by decide +kernel
theorem dX2_joins_20 : decode cX2_joins 20 = .ok (.iload_n 2, 1) := by decide +kernel
theorem dX2_joins_21 : decode cX2_joins 21 = .ok (.ishr, 1) := by decide +kernel
theorem dX2_joins_22 : decode cX2_joins 22 = .ok (.iconst 1, 1) := by decide +kernel
theorem dX2_joins_23 : decode cX2_joins 23 = .ok (.iand, 1) := by decide +kernel
theorem dX2_joins_24 : decode cX2_joins 24 = .ok (.iconst 1, 1) := by decide +kernel
theorem dX2_joins_25 : decode cX2_joins 25 = .ok (.if_icmp .ne 7, 3) := by decide +kernel
theorem dX2_joins_28 : decode cX2_joins 28 = .ok (.iconst 1, 1) := by decide +kernel
theorem dX2_joins_29 : decode cX2_joins 29 = .ok (.goto 4, 3) := by decide +kernel
theorem dX2_joins_32 : decode cX2_joins 32 = .ok (.iconst 0, 1) := by decide +kernel
theorem dX2_joins_33 : decode cX2_joins 33 = .ok (.ireturn, 1) := by decide +kernel
theorem dX2_stepsBetween_0 : decode cX2_stepsBetween 0 = .ok (.iload_n 1, 1) := by decide +kernel
theorem dX2_stepsBetween_1 : decode cX2_stepsBetween 1 = .ok (.ifCond .lt 19, 3) := by decide +kernel
theorem dX2_stepsBetween_4 : decode cX2_stepsBetween 4 = .ok (.iload_n 1, 1) := by decide +kernel
theorem dX2_stepsBetween_5 : decode cX2_stepsBetween 5 = .ok (.bipush 8, 2) := by decide +kernel
theorem dX2_stepsBetween_7 : decode cX2_stepsBetween 7 = .ok (.if_icmp .ge 13, 3) := by decide +kernel
theorem dX2_stepsBetween_10 : decode cX2_stepsBetween 10 = .ok (.iload_n 2, 1) := by decide +kernel
theorem dX2_stepsBetween_11 : decode cX2_stepsBetween 11 = .ok (.ifCond .lt 9, 3) := by decide +kernel
theorem dX2_stepsBetween_14 : decode cX2_stepsBetween 14 = .ok (.iload_n 2, 1) := by decide +kernel
theorem dX2_stepsBetween_15 : decode cX2_stepsBetween 15 = .ok (.bipush 8, 2) := by decide +kernel
theorem dX2_stepsBetween_17 : decode cX2_stepsBetween 17 = .ok (.if_icmp .lt 6, 3) := by decide +kernel
theorem dX2_stepsBetween_20 : decode cX2_stepsBetween 20 = .ok (.bipush 9, 2) := by decide +kernel
theorem dX2_stepsBetween_22 : decode cX2_stepsBetween 22 = .ok (.ireturn, 1) := by decide +kernel
theorem dX2_stepsBetween_23 : decode cX2_stepsBetween 23 = .ok (.aload_n 0, 1) := by decide +kernel
theorem dX2_stepsBetween_24 : decode cX2_stepsBetween 24 = .ok (.getfield 15, 3) := by decide +kernel
theorem dX2_stepsBetween_27 : decode cX2_stepsBetween 27 = .ok (.iload_n 1, 1) := by decide +kernel
theorem dX2_stepsBetween_28 : decode cX2_stepsBetween 28 = .ok (.bipush 8, 2) := by decide +kernel
theorem dX2_stepsBetween_30 : decode cX2_stepsBetween 30 = .ok (.imul, 1) := by decide +kernel
theorem dX2_stepsBetween_31 : decode cX2_stepsBetween 31 = .ok (.iload_n 2, 1) := by decide +kernel
theorem dX2_stepsBetween_32 : decode cX2_stepsBetween 32 = .ok (.iadd, 1) := by decide +kernel
theorem dX2_stepsBetween_33 : decode cX2_stepsBetween 33 = .ok (.iaload, 1) := by decide +kernel
theorem dX2_stepsBetween_34 : decode cX2_stepsBetween 34 = .ok (.ireturn, 1) := by decide +kernel
theorem dX2_change_0 : decode cX2_change 0 = .ok (.iload_n 1, 1) := by decide +kernel
theorem dX2_change_1 : decode cX2_change 1 = .ok (.invokestatic 27, 3) := by decide +kernel
theorem dX2_change_4 : decode cX2_change 4 = .ok (.ifCond .eq 43, 3) := by decide +kernel
theorem dX2_change_7 : decode cX2_change 7 = .ok (.iload_n 2, 1) := by decide +kernel
theorem dX2_change_8 : decode cX2_change 8 = .ok (.invokestatic 27, 3) := by decide +kernel
theorem dX2_change_11 : decode cX2_change 11 = .ok (.ifCond .eq 36, 3) := by decide +kernel
theorem dX2_change_14 : decode cX2_change 14 = .ok (.iload_n 1, 1) := by decide +kernel
theorem dX2_change_15 : decode cX2_change 15 = .ok (.iload_n 2, 1) := by decide +kernel
theorem dX2_change_16 : decode cX2_change 16 = .ok (.if_icmp .eq 31, 3) := by decide +kernel
theorem dX2_change_19 : decode cX2_change 19 = .ok (.aload_n 0, 1) := by decide +kernel
theorem dX2_change_20 : decode cX2_change 20 = .ok (.getfield 9, 3) := by decide +kernel
theorem dX2_change_23 : decode cX2_change 23 = .ok (.iload_n 1, 1) := by decide +kernel
theorem dX2_change_24 : decode cX2_change 24 = .ok (.dup2, 1) := by decide +kernel
theorem dX2_change_25 : decode cX2_change 25 = .ok (.iaload, 1) := by decide +kernel
theorem dX2_change_26 : decode cX2_change 26 = .ok (.iconst 1, 1) := by decide +kernel
theorem dX2_change_27 : decode cX2_change 27 = .ok (.iload_n 2, 1) := by decide +kernel
theorem dX2_change_28 : decode cX2_change 28 = .ok (.ishl, 1) := by decide +kernel
theorem dX2_change_29 : decode cX2_change 29 = .ok (.ixor, 1) := by decide +kernel
theorem dX2_change_30 : decode cX2_change 30 = .ok (.iastore, 1) := by decide +kernel
theorem dX2_change_31 : decode cX2_change 31 = .ok (.aload_n 0, 1) := by decide +kernel
theorem dX2_change_32 : decode cX2_change 32 = .ok (.getfield 9, 3) := by decide +kernel
theorem dX2_change_35 : decode cX2_change 35 = .ok (.iload_n 2, 1) := by decide +kernel
theorem dX2_change_36 : decode cX2_change 36 = .ok (.dup2, 1) := by decide +kernel
theorem dX2_change_37 : decode cX2_change 37 = .ok (.iaload, 1) := by decide +kernel
theorem dX2_change_38 : decode cX2_change 38 = .ok (.iconst 1, 1) := by decide +kernel
theorem dX2_change_39 : decode cX2_change 39 = .ok (.iload_n 1, 1) := by decide +kernel
theorem dX2_change_40 : decode cX2_change 40 = .ok (.ishl, 1) := by decide +kernel
theorem dX2_change_41 : decode cX2_change 41 = .ok (.ixor, 1) := by decide +kernel
theorem dX2_change_42 : decode cX2_change 42 = .ok (.iastore, 1) := by decide +kernel
theorem dX2_change_43 : decode cX2_change 43 = .ok (.aload_n 0, 1) := by decide +kernel
theorem dX2_change_44 : decode cX2_change 44 = .ok (.invokevirtual 18, 3) := by decide +kernel
theorem dX2_change_47 : decode cX2_change 47 = .ok (.return_, 1) := by decide +kernel
theorem dX2_roadCount_0 : decode cX2_roadCount 0 = .ok (.iconst 0, 1) := by decide +kernel
theorem dX2_roadCount_1 : decode cX2_roadCount 1 = .ok (.istore_n 1, 1) := by decide +kernel
theorem dX2_roadCount_2 : decode cX2_roadCount 2 = .ok (.iconst 0, 1) := by decide +kernel
theorem dX2_roadCount_3 : decode cX2_roadCount 3 = .ok (.istore_n 2, 1) := by decide +kernel
theorem dX2_roadCount_4 : decode cX2_roadCount 4 = .ok (.iload_n 2, 1) := by decide +kernel
theorem dX2_roadCount_5 : decode cX2_roadCount 5 = .ok (.bipush 8, 2) := by decide +kernel
theorem dX2_roadCount_7 : decode cX2_roadCount 7 = .ok (.if_icmp .ge 21, 3) := by decide +kernel
theorem dX2_roadCount_10 : decode cX2_roadCount 10 = .ok (.iload_n 1, 1) := by decide +kernel
theorem dX2_roadCount_11 : decode cX2_roadCount 11 = .ok (.aload_n 0, 1) := by decide +kernel
theorem dX2_roadCount_12 : decode cX2_roadCount 12 = .ok (.getfield 9, 3) := by decide +kernel
theorem dX2_roadCount_15 : decode cX2_roadCount 15 = .ok (.iload_n 2, 1) := by decide +kernel
theorem dX2_roadCount_16 : decode cX2_roadCount 16 = .ok (.iaload, 1) := by decide +kernel
theorem dX2_roadCount_17 : decode cX2_roadCount 17 = .ok (.invokestatic 31, 3) := by decide +kernel
theorem dX2_roadCount_20 : decode cX2_roadCount 20 = .ok (.iadd, 1) := by decide +kernel
theorem dX2_roadCount_21 : decode cX2_roadCount 21 = .ok (.istore_n 1, 1) := by decide +kernel
theorem dX2_roadCount_22 : decode cX2_roadCount 22 = .ok (.iinc 2 1, 3) := by decide +kernel
theorem dX2_roadCount_25 : decode cX2_roadCount 25 = .ok (.goto (-21), 3) := by decide +kernel
theorem dX2_roadCount_28 : decode cX2_roadCount 28 = .ok (.iload_n 1, 1) := by decide +kernel
theorem dX2_roadCount_29 : decode cX2_roadCount 29 = .ok (.iconst 2, 1) := by decide +kernel
theorem dX2_roadCount_30 : decode cX2_roadCount 30 = .ok (.idiv, 1) := by decide +kernel
theorem dX2_roadCount_31 : decode cX2_roadCount 31 = .ok (.ireturn, 1) := by decide +kernel
theorem dX2_mostSteps_0 : decode cX2_mostSteps 0 = .ok (.iconst 0, 1) := by decide +kernel
theorem dX2_mostSteps_1 : decode cX2_mostSteps 1 = .ok (.istore_n 1, 1) := by decide +kernel
theorem dX2_mostSteps_2 : decode cX2_mostSteps 2 = .ok (.iconst 0, 1) := by decide +kernel
theorem dX2_mostSteps_3 : decode cX2_mostSteps 3 = .ok (.istore_n 2, 1) := by decide +kernel
theorem dX2_mostSteps_4 : decode cX2_mostSteps 4 = .ok (.iload_n 2, 1) := by decide +kernel
theorem dX2_mostSteps_5 : decode cX2_mostSteps 5 = .ok (.bipush 64, 2) := by decide +kernel
theorem dX2_mostSteps_7 : decode cX2_mostSteps 7 = .ok (.if_icmp .ge 31, 3) := by decide +kernel
theorem dX2_mostSteps_10 : decode cX2_mostSteps 10 = .ok (.aload_n 0, 1) := by decide +kernel
theorem dX2_mostSteps_11 : decode cX2_mostSteps 11 = .ok (.getfield 15, 3) := by decide +kernel
theorem dX2_mostSteps_14 : decode cX2_mostSteps 14 = .ok (.iload_n 2, 1) := by decide +kernel
theorem dX2_mostSteps_15 : decode cX2_mostSteps 15 = .ok (.iaload, 1) := by decide +kernel
theorem dX2_mostSteps_16 : decode cX2_mostSteps 16 = .ok (.bipush 9, 2) := by decide +kernel
theorem dX2_mostSteps_18 : decode cX2_mostSteps 18 = .ok (.if_icmp .eq 14, 3) := by decide +kernel
theorem dX2_mostSteps_21 : decode cX2_mostSteps 21 = .ok (.iload_n 1, 1) := by decide +kernel
theorem dX2_mostSteps_22 : decode cX2_mostSteps 22 = .ok (.aload_n 0, 1) := by decide +kernel
theorem dX2_mostSteps_23 : decode cX2_mostSteps 23 = .ok (.getfield 15, 3) := by decide +kernel
theorem dX2_mostSteps_26 : decode cX2_mostSteps 26 = .ok (.iload_n 2, 1) := by decide +kernel
theorem dX2_mostSteps_27 : decode cX2_mostSteps 27 = .ok (.iaload, 1) := by decide +kernel
theorem dX2_mostSteps_28 : decode cX2_mostSteps 28 = .ok (.invokestatic 37, 3) := by decide +kernel
theorem dX2_mostSteps_31 : decode cX2_mostSteps 31 = .ok (.istore_n 1, 1) := by decide +kernel
theorem dX2_mostSteps_32 : decode cX2_mostSteps 32 = .ok (.iinc 2 1, 3) := by decide +kernel
theorem dX2_mostSteps_35 : decode cX2_mostSteps 35 = .ok (.goto (-31), 3) := by decide +kernel
theorem dX2_mostSteps_38 : decode cX2_mostSteps 38 = .ok (.iload_n 1, 1) := by decide +kernel
theorem dX2_mostSteps_39 : decode cX2_mostSteps 39 = .ok (.ireturn, 1) := by decide +kernel
theorem dX2_farBits_0 : decode cX2_farBits 0 = .ok (.iconst 0, 1) := by decide +kernel
theorem dX2_farBits_1 : decode cX2_farBits 1 = .ok (.istore_n 1, 1) := by decide +kernel
theorem dX2_farBits_2 : decode cX2_farBits 2 = .ok (.iconst 0, 1) := by decide +kernel
theorem dX2_farBits_3 : decode cX2_farBits 3 = .ok (.istore_n 2, 1) := by decide +kernel
theorem dX2_farBits_4 : decode cX2_farBits 4 = .ok (.iload_n 2, 1) := by decide +kernel
theorem dX2_farBits_5 : decode cX2_farBits 5 = .ok (.bipush 8, 2) := by decide +kernel
theorem dX2_farBits_7 : decode cX2_farBits 7 = .ok (.if_icmp .ge 26, 3) := by decide +kernel
theorem dX2_farBits_10 : decode cX2_farBits 10 = .ok (.aload_n 0, 1) := by decide +kernel
theorem dX2_farBits_11 : decode cX2_farBits 11 = .ok (.iconst 0, 1) := by decide +kernel
theorem dX2_farBits_12 : decode cX2_farBits 12 = .ok (.iload_n 2, 1) := by decide +kernel
theorem dX2_farBits_13 : decode cX2_farBits 13 = .ok (.invokevirtual 43, 3) := by decide +kernel
theorem dX2_farBits_16 : decode cX2_farBits 16 = .ok (.bipush 9, 2) := by decide +kernel
theorem dX2_farBits_18 : decode cX2_farBits 18 = .ok (.if_icmp .ne 9, 3) := by decide +kernel
theorem dX2_farBits_21 : decode cX2_farBits 21 = .ok (.iload_n 1, 1) := by decide +kernel
theorem dX2_farBits_22 : decode cX2_farBits 22 = .ok (.iconst 1, 1) := by decide +kernel
theorem dX2_farBits_23 : decode cX2_farBits 23 = .ok (.iload_n 2, 1) := by decide +kernel
theorem dX2_farBits_24 : decode cX2_farBits 24 = .ok (.ishl, 1) := by decide +kernel
theorem dX2_farBits_25 : decode cX2_farBits 25 = .ok (.ior, 1) := by decide +kernel
theorem dX2_farBits_26 : decode cX2_farBits 26 = .ok (.istore_n 1, 1) := by decide +kernel
theorem dX2_farBits_27 : decode cX2_farBits 27 = .ok (.iinc 2 1, 3) := by decide +kernel
theorem dX2_farBits_30 : decode cX2_farBits 30 = .ok (.goto (-26), 3) := by decide +kernel
theorem dX2_farBits_33 : decode cX2_farBits 33 = .ok (.iload_n 1, 1) := by decide +kernel
theorem dX2_farBits_34 : decode cX2_farBits 34 = .ok (.ireturn, 1) := by decide +kernel
theorem dX2_reckonSteps_0 : decode cX2_reckonSteps 0 = .ok (.iconst 0, 1) := by decide +kernel
theorem dX2_reckonSteps_1 : decode cX2_reckonSteps 1 = .ok (.istore_n 1, 1) := by decide +kernel
theorem dX2_reckonSteps_2 : decode cX2_reckonSteps 2 = .ok (.iload_n 1, 1) := by decide +kernel
theorem dX2_reckonSteps_3 : decode cX2_reckonSteps 3 = .ok (.bipush 8, 2) := by decide +kernel
theorem dX2_reckonSteps_5 : decode cX2_reckonSteps 5 = .ok (.if_icmp .ge 60, 3) := by decide +kernel
theorem dX2_reckonSteps_8 : decode cX2_reckonSteps 8 = .ok (.iconst 0, 1) := by decide +kernel
theorem dX2_reckonSteps_9 : decode cX2_reckonSteps 9 = .ok (.istore_n 2, 1) := by decide +kernel
theorem dX2_reckonSteps_10 : decode cX2_reckonSteps 10 = .ok (.iload_n 2, 1) := by decide +kernel
theorem dX2_reckonSteps_11 : decode cX2_reckonSteps 11 = .ok (.bipush 8, 2) := by decide +kernel
theorem dX2_reckonSteps_13 : decode cX2_reckonSteps 13 = .ok (.if_icmp .ge 46, 3) := by decide +kernel
theorem dX2_reckonSteps_16 : decode cX2_reckonSteps 16 = .ok (.aload_n 0, 1) := by decide +kernel
theorem dX2_reckonSteps_17 : decode cX2_reckonSteps 17 = .ok (.iload_n 1, 1) := by decide +kernel
theorem dX2_reckonSteps_18 : decode cX2_reckonSteps 18 = .ok (.iload_n 2, 1) := by decide +kernel
theorem dX2_reckonSteps_19 : decode cX2_reckonSteps 19 = .ok (.invokevirtual 46, 3) := by decide +kernel
theorem dX2_reckonSteps_22 : decode cX2_reckonSteps 22 = .ok (.ifCond .eq 7, 3) := by decide +kernel
theorem dX2_reckonSteps_25 : decode cX2_reckonSteps 25 = .ok (.iconst 1, 1) := by decide +kernel
theorem dX2_reckonSteps_26 : decode cX2_reckonSteps 26 = .ok (.goto 5, 3) := by decide +kernel
theorem dX2_reckonSteps_29 : decode cX2_reckonSteps 29 = .ok (.bipush 9, 2) := by decide +kernel
theorem dX2_reckonSteps_31 : decode cX2_reckonSteps 31 = .ok (.istore_n 3, 1) := by decide +kernel
theorem dX2_reckonSteps_32 : decode cX2_reckonSteps 32 = .ok (.aload_n 0, 1) := by decide +kernel
theorem dX2_reckonSteps_33 : decode cX2_reckonSteps 33 = .ok (.getfield 15, 3) := by decide +kernel
theorem dX2_reckonSteps_36 : decode cX2_reckonSteps 36 = .ok (.iload_n 1, 1) := by decide +kernel
theorem dX2_reckonSteps_37 : decode cX2_reckonSteps 37 = .ok (.bipush 8, 2) := by decide +kernel
theorem dX2_reckonSteps_39 : decode cX2_reckonSteps 39 = .ok (.imul, 1) := by decide +kernel
theorem dX2_reckonSteps_40 : decode cX2_reckonSteps 40 = .ok (.iload_n 2, 1) := by decide +kernel
theorem dX2_reckonSteps_41 : decode cX2_reckonSteps 41 = .ok (.iadd, 1) := by decide +kernel
theorem dX2_reckonSteps_42 : decode cX2_reckonSteps 42 = .ok (.iload_n 1, 1) := by decide +kernel
theorem dX2_reckonSteps_43 : decode cX2_reckonSteps 43 = .ok (.iload_n 2, 1) := by decide +kernel
theorem dX2_reckonSteps_44 : decode cX2_reckonSteps 44 = .ok (.if_icmp .ne 7, 3) := by decide +kernel
theorem dX2_reckonSteps_47 : decode cX2_reckonSteps 47 = .ok (.iconst 0, 1) := by decide +kernel
theorem dX2_reckonSteps_48 : decode cX2_reckonSteps 48 = .ok (.goto 4, 3) := by decide +kernel
theorem dX2_reckonSteps_51 : decode cX2_reckonSteps 51 = .ok (.iload_n 3, 1) := by decide +kernel
theorem dX2_reckonSteps_52 : decode cX2_reckonSteps 52 = .ok (.iastore, 1) := by decide +kernel
theorem dX2_reckonSteps_53 : decode cX2_reckonSteps 53 = .ok (.iinc 2 1, 3) := by decide +kernel
theorem dX2_reckonSteps_56 : decode cX2_reckonSteps 56 = .ok (.goto (-46), 3) := by decide +kernel
theorem dX2_reckonSteps_59 : decode cX2_reckonSteps 59 = .ok (.iinc 1 1, 3) := by decide +kernel
theorem dX2_reckonSteps_62 : decode cX2_reckonSteps 62 = .ok (.goto (-60), 3) := by decide +kernel
theorem dX2_reckonSteps_65 : decode cX2_reckonSteps 65 = .ok (.iconst 0, 1) := by decide +kernel
theorem dX2_reckonSteps_66 : decode cX2_reckonSteps 66 = .ok (.istore_n 1, 1) := by decide +kernel
theorem dX2_reckonSteps_67 : decode cX2_reckonSteps 67 = .ok (.iload_n 1, 1) := by decide +kernel
theorem dX2_reckonSteps_68 : decode cX2_reckonSteps 68 = .ok (.bipush 8, 2) := by decide +kernel
theorem dX2_reckonSteps_70 : decode cX2_reckonSteps 70 = .ok (.if_icmp .ge 89, 3) := by decide +kernel
theorem dX2_reckonSteps_73 : decode cX2_reckonSteps 73 = .ok (.iconst 0, 1) := by decide +kernel
theorem dX2_reckonSteps_74 : decode cX2_reckonSteps 74 = .ok (.istore_n 2, 1) := by decide +kernel
theorem dX2_reckonSteps_75 : decode cX2_reckonSteps 75 = .ok (.iload_n 2, 1) := by decide +kernel
theorem dX2_reckonSteps_76 : decode cX2_reckonSteps 76 = .ok (.bipush 8, 2) := by decide +kernel
theorem dX2_reckonSteps_78 : decode cX2_reckonSteps 78 = .ok (.if_icmp .ge 75, 3) := by decide +kernel
theorem dX2_reckonSteps_81 : decode cX2_reckonSteps 81 = .ok (.iconst 0, 1) := by decide +kernel
theorem dX2_reckonSteps_82 : decode cX2_reckonSteps 82 = .ok (.istore_n 3, 1) := by decide +kernel
theorem dX2_reckonSteps_83 : decode cX2_reckonSteps 83 = .ok (.iload_n 3, 1) := by decide +kernel
theorem dX2_reckonSteps_84 : decode cX2_reckonSteps 84 = .ok (.bipush 8, 2) := by decide +kernel
theorem dX2_reckonSteps_86 : decode cX2_reckonSteps 86 = .ok (.if_icmp .ge 61, 3) := by decide +kernel
theorem dX2_reckonSteps_89 : decode cX2_reckonSteps 89 = .ok (.aload_n 0, 1) := by decide +kernel
theorem dX2_reckonSteps_90 : decode cX2_reckonSteps 90 = .ok (.getfield 15, 3) := by decide +kernel
theorem dX2_reckonSteps_93 : decode cX2_reckonSteps 93 = .ok (.iload_n 2, 1) := by decide +kernel
theorem dX2_reckonSteps_94 : decode cX2_reckonSteps 94 = .ok (.bipush 8, 2) := by decide +kernel
theorem dX2_reckonSteps_96 : decode cX2_reckonSteps 96 = .ok (.imul, 1) := by decide +kernel
theorem dX2_reckonSteps_97 : decode cX2_reckonSteps 97 = .ok (.iload_n 1, 1) := by decide +kernel
theorem dX2_reckonSteps_98 : decode cX2_reckonSteps 98 = .ok (.iadd, 1) := by decide +kernel
theorem dX2_reckonSteps_99 : decode cX2_reckonSteps 99 = .ok (.iaload, 1) := by decide +kernel
theorem dX2_reckonSteps_100 : decode cX2_reckonSteps 100 = .ok (.aload_n 0, 1) := by decide +kernel
theorem dX2_reckonSteps_101 : decode cX2_reckonSteps 101 = .ok (.getfield 15, 3) := by decide +kernel
theorem dX2_reckonSteps_104 : decode cX2_reckonSteps 104 = .ok (.iload_n 1, 1) := by decide +kernel
theorem dX2_reckonSteps_105 : decode cX2_reckonSteps 105 = .ok (.bipush 8, 2) := by decide +kernel
theorem dX2_reckonSteps_107 : decode cX2_reckonSteps 107 = .ok (.imul, 1) := by decide +kernel
theorem dX2_reckonSteps_108 : decode cX2_reckonSteps 108 = .ok (.iload_n 3, 1) := by decide +kernel
theorem dX2_reckonSteps_109 : decode cX2_reckonSteps 109 = .ok (.iadd, 1) := by decide +kernel
theorem dX2_reckonSteps_110 : decode cX2_reckonSteps 110 = .ok (.iaload, 1) := by decide +kernel
theorem dX2_reckonSteps_111 : decode cX2_reckonSteps 111 = .ok (.iadd, 1) := by decide +kernel
theorem dX2_reckonSteps_112 : decode cX2_reckonSteps 112 = .ok (.istore 4, 2) := by decide +kernel
theorem dX2_reckonSteps_114 : decode cX2_reckonSteps 114 = .ok (.aload_n 0, 1) := by decide +kernel
theorem dX2_reckonSteps_115 : decode cX2_reckonSteps 115 = .ok (.getfield 15, 3) := by decide +kernel
theorem dX2_reckonSteps_118 : decode cX2_reckonSteps 118 = .ok (.iload_n 2, 1) := by decide +kernel
theorem dX2_reckonSteps_119 : decode cX2_reckonSteps 119 = .ok (.bipush 8, 2) := by decide +kernel
theorem dX2_reckonSteps_121 : decode cX2_reckonSteps 121 = .ok (.imul, 1) := by decide +kernel
theorem dX2_reckonSteps_122 : decode cX2_reckonSteps 122 = .ok (.iload_n 3, 1) := by decide +kernel
theorem dX2_reckonSteps_123 : decode cX2_reckonSteps 123 = .ok (.iadd, 1) := by decide +kernel
theorem dX2_reckonSteps_124 : decode cX2_reckonSteps 124 = .ok (.aload_n 0, 1) := by decide +kernel
theorem dX2_reckonSteps_125 : decode cX2_reckonSteps 125 = .ok (.getfield 15, 3) := by decide +kernel
theorem dX2_reckonSteps_128 : decode cX2_reckonSteps 128 = .ok (.iload_n 2, 1) := by decide +kernel
theorem dX2_reckonSteps_129 : decode cX2_reckonSteps 129 = .ok (.bipush 8, 2) := by decide +kernel
theorem dX2_reckonSteps_131 : decode cX2_reckonSteps 131 = .ok (.imul, 1) := by decide +kernel
theorem dX2_reckonSteps_132 : decode cX2_reckonSteps 132 = .ok (.iload_n 3, 1) := by decide +kernel
theorem dX2_reckonSteps_133 : decode cX2_reckonSteps 133 = .ok (.iadd, 1) := by decide +kernel
theorem dX2_reckonSteps_134 : decode cX2_reckonSteps 134 = .ok (.iaload, 1) := by decide +kernel
theorem dX2_reckonSteps_135 : decode cX2_reckonSteps 135 = .ok (.iload 4, 2) := by decide +kernel
theorem dX2_reckonSteps_137 : decode cX2_reckonSteps 137 = .ok (.invokestatic 50, 3) := by decide +kernel
theorem dX2_reckonSteps_140 : decode cX2_reckonSteps 140 = .ok (.iastore, 1) := by decide +kernel
theorem dX2_reckonSteps_141 : decode cX2_reckonSteps 141 = .ok (.iinc 3 1, 3) := by decide +kernel
theorem dX2_reckonSteps_144 : decode cX2_reckonSteps 144 = .ok (.goto (-61), 3) := by decide +kernel
theorem dX2_reckonSteps_147 : decode cX2_reckonSteps 147 = .ok (.iinc 2 1, 3) := by decide +kernel
theorem dX2_reckonSteps_150 : decode cX2_reckonSteps 150 = .ok (.goto (-75), 3) := by decide +kernel
theorem dX2_reckonSteps_153 : decode cX2_reckonSteps 153 = .ok (.iinc 1 1, 3) := by decide +kernel
theorem dX2_reckonSteps_156 : decode cX2_reckonSteps 156 = .ok (.goto (-89), 3) := by decide +kernel
theorem dX2_reckonSteps_159 : decode cX2_reckonSteps 159 = .ok (.return_, 1) := by decide +kernel
theorem dX3_init_0 : decode cX3_init 0 = .ok (.aload_n 0, 1) := by decide +kernel
theorem dX3_init_1 : decode cX3_init 1 = .ok (.invokespecial 3, 3) := by decide +kernel
theorem dX3_init_4 : decode cX3_init 4 = .ok (.aload_n 0, 1) := by decide +kernel
theorem dX3_init_5 : decode cX3_init 5 = .ok (.bipush 96, 2) := by decide +kernel
theorem dX3_init_7 : decode cX3_init 7 = .ok (.newarray .int, 2) := by decide +kernel
theorem dX3_init_9 : decode cX3_init 9 = .ok (.putfield 9, 3) := by decide +kernel
theorem dX3_init_12 : decode cX3_init 12 = .ok (.return_, 1) := by decide +kernel
theorem dX3_isFull_0 : decode cX3_isFull 0 = .ok (.aload_n 0, 1) := by decide +kernel
theorem dX3_isFull_1 : decode cX3_isFull 1 = .ok (.getfield 15, 3) := by decide +kernel
theorem dX3_isFull_4 : decode cX3_isFull 4 = .ok (.bipush 96, 2) := by decide +kernel
theorem dX3_isFull_6 : decode cX3_isFull 6 = .ok (.if_icmp .lt 7, 3) := by decide +kernel
theorem dX3_isFull_9 : decode cX3_isFull 9 = .ok (.iconst 1, 1) := by decide +kernel
theorem dX3_isFull_10 : decode cX3_isFull 10 = .ok (.goto 4, 3) := by decide +kernel
theorem dX3_isFull_13 : decode cX3_isFull 13 = .ok (.iconst 0, 1) := by decide +kernel
theorem dX3_isFull_14 : decode cX3_isFull 14 = .ok (.ireturn, 1) := by decide +kernel
theorem dX3_add_0 : decode cX3_add 0 = .ok (.aload_n 0, 1) := by decide +kernel
theorem dX3_add_1 : decode cX3_add 1 = .ok (.invokevirtual 19, 3) := by decide +kernel
theorem dX3_add_4 : decode cX3_add 4 = .ok (.ifCond .ne 23, 3) := by decide +kernel
theorem dX3_add_7 : decode cX3_add 7 = .ok (.aload_n 0, 1) := by decide +kernel
theorem dX3_add_8 : decode cX3_add 8 = .ok (.getfield 9, 3) := by decide +kernel
theorem dX3_add_11 : decode cX3_add 11 = .ok (.aload_n 0, 1) := by decide +kernel
theorem dX3_add_12 : decode cX3_add 12 = .ok (.getfield 15, 3) := by decide +kernel
theorem dX3_add_15 : decode cX3_add 15 = .ok (.iload_n 1, 1) := by decide +kernel
theorem dX3_add_16 : decode cX3_add 16 = .ok (.iastore, 1) := by decide +kernel
theorem dX3_add_17 : decode cX3_add 17 = .ok (.aload_n 0, 1) := by decide +kernel
theorem dX3_add_18 : decode cX3_add 18 = .ok (.dup, 1) := by decide +kernel
theorem dX3_add_19 : decode cX3_add 19 = .ok (.getfield 15, 3) := by decide +kernel
theorem dX3_add_22 : decode cX3_add 22 = .ok (.iconst 1, 1) := by decide +kernel
theorem dX3_add_23 : decode cX3_add 23 = .ok (.iadd, 1) := by decide +kernel
theorem dX3_add_24 : decode cX3_add 24 = .ok (.putfield 15, 3) := by decide +kernel
theorem dX3_add_27 : decode cX3_add 27 = .ok (.aload_n 0, 1) := by decide +kernel
theorem dX3_add_28 : decode cX3_add 28 = .ok (.getfield 15, 3) := by decide +kernel
theorem dX3_add_31 : decode cX3_add 31 = .ok (.ireturn, 1) := by decide +kernel
theorem dX3_forget_0 : decode cX3_forget 0 = .ok (.aload_n 0, 1) := by decide +kernel
theorem dX3_forget_1 : decode cX3_forget 1 = .ok (.iconst 0, 1) := by decide +kernel
theorem dX3_forget_2 : decode cX3_forget 2 = .ok (.putfield 15, 3) := by decide +kernel
theorem dX3_forget_5 : decode cX3_forget 5 = .ok (.return_, 1) := by decide +kernel
theorem dX3_tellTo_0 : decode cX3_tellTo 0 = .ok (.aload_n 0, 1) := by decide +kernel
theorem dX3_tellTo_1 : decode cX3_tellTo 1 = .ok (.invokevirtual 23, 3) := by decide +kernel
theorem dX3_tellTo_4 : decode cX3_tellTo 4 = .ok (.istore_n 2, 1) := by decide +kernel
theorem dX3_tellTo_5 : decode cX3_tellTo 5 = .ok (.iload_n 2, 1) := by decide +kernel
theorem dX3_tellTo_6 : decode cX3_tellTo 6 = .ok (.ifCond .lt 9, 3) := by decide +kernel
theorem dX3_tellTo_9 : decode cX3_tellTo 9 = .ok (.sipush (-1000), 3) := by decide +kernel
theorem dX3_tellTo_12 : decode cX3_tellTo 12 = .ok (.iload_n 2, 1) := by decide +kernel
theorem dX3_tellTo_13 : decode cX3_tellTo 13 = .ok (.isub, 1) := by decide +kernel
theorem dX3_tellTo_14 : decode cX3_tellTo 14 = .ok (.ireturn, 1) := by decide +kernel
theorem dX3_tellTo_15 : decode cX3_tellTo 15 = .ok (.iconst 0, 1) := by decide +kernel
theorem dX3_tellTo_16 : decode cX3_tellTo 16 = .ok (.istore_n 3, 1) := by decide +kernel
theorem dX3_tellTo_17 : decode cX3_tellTo 17 = .ok (.iconst 0, 1) := by decide +kernel
theorem dX3_tellTo_18 : decode cX3_tellTo 18 = .ok (.istore 4, 2) := by decide +kernel
theorem dX3_tellTo_20 : decode cX3_tellTo 20 = .ok (.iload 4, 2) := by decide +kernel
theorem dX3_tellTo_22 : decode cX3_tellTo 22 = .ok (.aload_n 0, 1) := by decide +kernel
theorem dX3_tellTo_23 : decode cX3_tellTo 23 = .ok (.getfield 15, 3) := by decide +kernel
theorem dX3_tellTo_26 : decode cX3_tellTo 26 = .ok (.if_icmp .ge 42, 3) := by decide +kernel
theorem dX3_tellTo_29 : decode cX3_tellTo 29 = .ok (.aload_n 0, 1) := by decide +kernel
theorem dX3_tellTo_30 : decode cX3_tellTo 30 = .ok (.aload_n 1, 1) := by decide +kernel
theorem dX3_tellTo_31 : decode cX3_tellTo 31 = .ok (.iload 4, 2) := by decide +kernel
theorem dX3_tellTo_33 : decode cX3_tellTo 33 = .ok (.invokevirtual 27, 3) := by decide +kernel
theorem dX3_tellTo_36 : decode cX3_tellTo 36 = .ok (.ifCond .ne 10, 3) := by decide +kernel
theorem dX3_tellTo_39 : decode cX3_tellTo 39 = .ok (.sipush (-2000), 3) := by decide +kernel
theorem dX3_tellTo_42 : decode cX3_tellTo 42 = .ok (.iload 4, 2) := by decide +kernel
theorem dX3_tellTo_44 : decode cX3_tellTo 44 = .ok (.isub, 1) := by decide +kernel
theorem dX3_tellTo_45 : decode cX3_tellTo 45 = .ok (.ireturn, 1) := by decide +kernel
theorem dX3_tellTo_46 : decode cX3_tellTo 46 = .ok (.iinc 3 1, 3) := by decide +kernel
theorem dX3_tellTo_49 : decode cX3_tellTo 49 = .ok (.iload 4, 2) := by decide +kernel
theorem dX3_tellTo_51 : decode cX3_tellTo 51 = .ok (.aload_n 0, 1) := by decide +kernel
theorem dX3_tellTo_52 : decode cX3_tellTo 52 = .ok (.iload 4, 2) := by decide +kernel
theorem dX3_tellTo_54 : decode cX3_tellTo 54 = .ok (.invokevirtual 31, 3) := by decide +kernel
theorem dX3_tellTo_57 : decode cX3_tellTo 57 = .ok (.invokestatic 35, 3) := by decide +kernel
theorem dX3_tellTo_60 : decode cX3_tellTo 60 = .ok (.iconst 1, 1) := by decide +kernel
theorem dX3_tellTo_61 : decode cX3_tellTo 61 = .ok (.iadd, 1) := by decide +kernel
theorem dX3_tellTo_62 : decode cX3_tellTo 62 = .ok (.iadd, 1) := by decide +kernel
theorem dX3_tellTo_63 : decode cX3_tellTo 63 = .ok (.istore 4, 2) := by decide +kernel
theorem dX3_tellTo_65 : decode cX3_tellTo 65 = .ok (.goto (-45), 3) := by decide +kernel
theorem dX3_tellTo_68 : decode cX3_tellTo 68 = .ok (.iload_n 3, 1) := by decide +kernel
theorem dX3_tellTo_69 : decode cX3_tellTo 69 = .ok (.ireturn, 1) := by decide +kernel
theorem dX3_signAt_0 : decode cX3_signAt 0 = .ok (.iload_n 1, 1) := by decide +kernel
theorem dX3_signAt_1 : decode cX3_signAt 1 = .ok (.aload_n 0, 1) := by decide +kernel
theorem dX3_signAt_2 : decode cX3_signAt 2 = .ok (.getfield 15, 3) := by decide +kernel
theorem dX3_signAt_5 : decode cX3_signAt 5 = .ok (.invokestatic 38, 3) := by decide +kernel
theorem dX3_signAt_8 : decode cX3_signAt 8 = .ok (.ifCond .eq 18, 3) := by decide +kernel
theorem dX3_signAt_11 : decode cX3_signAt 11 = .ok (.iload_n 1, 1) := by decide +kernel
theorem dX3_signAt_12 : decode cX3_signAt 12 = .ok (.bipush 96, 2) := by decide +kernel
theorem dX3_signAt_14 : decode cX3_signAt 14 = .ok (.if_icmp .ge 12, 3) := by decide +kernel
theorem dX3_signAt_17 : decode cX3_signAt 17 = .ok (.aload_n 0, 1) := by decide +kernel
theorem dX3_signAt_18 : decode cX3_signAt 18 = .ok (.getfield 9, 3) := by decide +kernel
theorem dX3_signAt_21 : decode cX3_signAt 21 = .ok (.iload_n 1, 1) := by decide +kernel
theorem dX3_signAt_22 : decode cX3_signAt 22 = .ok (.iaload, 1) := by decide +kernel
theorem dX3_signAt_23 : decode cX3_signAt 23 = .ok (.goto 5, 3) := by decide +kernel
theorem dX3_signAt_26 : decode cX3_signAt 26 = .ok (.bipush (-9), 2) := by decide +kernel
theorem dX3_signAt_28 : decode cX3_signAt 28 = .ok (.ireturn, 1) := by decide +kernel
theorem dX3_digitAt_0 : decode cX3_digitAt 0 = .ok (.aload_n 0, 1) := by decide +kernel
theorem dX3_digitAt_1 : decode cX3_digitAt 1 = .ok (.iload_n 1, 1) := by decide +kernel
theorem dX3_digitAt_2 : decode cX3_digitAt 2 = .ok (.invokevirtual 31, 3) := by decide +kernel
theorem dX3_digitAt_5 : decode cX3_digitAt 5 = .ok (.bipush 48, 2) := by decide +kernel
theorem dX3_digitAt_7 : decode cX3_digitAt 7 = .ok (.isub, 1) := by decide +kernel
theorem dX3_digitAt_8 : decode cX3_digitAt 8 = .ok (.ireturn, 1) := by decide +kernel
theorem dX3_lettersOf_0 : decode cX3_lettersOf 0 = .ok (.iload_n 0, 1) := by decide +kernel
theorem dX3_lettersOf_1 : decode cX3_lettersOf 1 = .ok (.lookupswitch 72 #[(97, 68), (100, 70), (104, 61), (114, 59), (115, 64), (119, 66)], 59) := by decide +kernel
theorem dX3_lettersOf_60 : decode cX3_lettersOf 60 = .ok (.iconst 3, 1) := by decide +kernel
theorem dX3_lettersOf_61 : decode cX3_lettersOf 61 = .ok (.ireturn, 1) := by decide +kernel
theorem dX3_lettersOf_62 : decode cX3_lettersOf 62 = .ok (.bipush 6, 2) := by decide +kernel
theorem dX3_lettersOf_64 : decode cX3_lettersOf 64 = .ok (.ireturn, 1) := by decide +kernel
theorem dX3_lettersOf_65 : decode cX3_lettersOf 65 = .ok (.iconst 2, 1) := by decide +kernel
theorem dX3_lettersOf_66 : decode cX3_lettersOf 66 = .ok (.ireturn, 1) := by decide +kernel
theorem dX3_lettersOf_67 : decode cX3_lettersOf 67 = .ok (.iconst 3, 1) := by decide +kernel
theorem dX3_lettersOf_68 : decode cX3_lettersOf 68 = .ok (.ireturn, 1) := by decide +kernel
theorem dX3_lettersOf_69 : decode cX3_lettersOf 69 = .ok (.iconst 3, 1) := by decide +kernel
theorem dX3_lettersOf_70 : decode cX3_lettersOf 70 = .ok (.ireturn, 1) := by decide +kernel
theorem dX3_lettersOf_71 : decode cX3_lettersOf 71 = .ok (.iconst 3, 1) := by decide +kernel
theorem dX3_lettersOf_72 : decode cX3_lettersOf 72 = .ok (.ireturn, 1) := by decide +kernel
theorem dX3_lettersOf_73 : decode cX3_lettersOf 73 = .ok (.iconst 0, 1) := by decide +kernel
theorem dX3_lettersOf_74 : decode cX3_lettersOf 74 = .ok (.ireturn, 1) := by decide +kernel
theorem dX3_firstUnfit_0 : decode cX3_firstUnfit 0 = .ok (.iconst 0, 1) := by decide +kernel
theorem dX3_firstUnfit_1 : decode cX3_firstUnfit 1 = .ok (.istore_n 1, 1) := by decide +kernel
theorem dX3_firstUnfit_2 : decode cX3_firstUnfit 2 = .ok (.iconst 0, 1) := by decide +kernel
theorem dX3_firstUnfit_3 : decode cX3_firstUnfit 3 = .ok (.istore_n 2, 1) := by decide +kernel
theorem dX3_firstUnfit_4 : decode cX3_firstUnfit 4 = .ok (.iload_n 2, 1) := by decide +kernel
theorem dX3_firstUnfit_5 : decode cX3_firstUnfit 5 = .ok (.aload_n 0, 1) := by decide +kernel
theorem dX3_firstUnfit_6 : decode cX3_firstUnfit 6 = .ok (.getfield 15, 3) := by decide +kernel
theorem dX3_firstUnfit_9 : decode cX3_firstUnfit 9 = .ok (.if_icmp .ge 34, 3) := by decide +kernel
theorem dX3_firstUnfit_12 : decode cX3_firstUnfit 12 = .ok (.aload_n 0, 1) := by decide +kernel
theorem dX3_firstUnfit_13 : decode cX3_firstUnfit 13 = .ok (.iload_n 1, 1) := by decide +kernel
theorem dX3_firstUnfit_14 : decode cX3_firstUnfit 14 = .ok (.iload_n 2, 1) := by decide +kernel
theorem dX3_firstUnfit_15 : decode cX3_firstUnfit 15 = .ok (.invokevirtual 42, 3) := by decide +kernel
theorem dX3_firstUnfit_18 : decode cX3_firstUnfit 18 = .ok (.ifCond .ne 5, 3) := by decide +kernel
theorem dX3_firstUnfit_21 : decode cX3_firstUnfit 21 = .ok (.iload_n 2, 1) := by decide +kernel
theorem dX3_firstUnfit_22 : decode cX3_firstUnfit 22 = .ok (.ireturn, 1) := by decide +kernel
theorem dX3_firstUnfit_23 : decode cX3_firstUnfit 23 = .ok (.aload_n 0, 1) := by decide +kernel
theorem dX3_firstUnfit_24 : decode cX3_firstUnfit 24 = .ok (.iload_n 2, 1) := by decide +kernel
theorem dX3_firstUnfit_25 : decode cX3_firstUnfit 25 = .ok (.invokevirtual 31, 3) := by decide +kernel
theorem dX3_firstUnfit_28 : decode cX3_firstUnfit 28 = .ok (.bipush 59, 2) := by decide +kernel
theorem dX3_firstUnfit_30 : decode cX3_firstUnfit 30 = .ok (.if_icmp .ne 7, 3) := by decide +kernel
theorem dX3_firstUnfit_33 : decode cX3_firstUnfit 33 = .ok (.iload_n 2, 1) := by decide +kernel
theorem dX3_firstUnfit_34 : decode cX3_firstUnfit 34 = .ok (.iconst 1, 1) := by decide +kernel
theorem dX3_firstUnfit_35 : decode cX3_firstUnfit 35 = .ok (.iadd, 1) := by decide +kernel
theorem dX3_firstUnfit_36 : decode cX3_firstUnfit 36 = .ok (.istore_n 1, 1) := by decide +kernel
theorem dX3_firstUnfit_37 : decode cX3_firstUnfit 37 = .ok (.iinc 2 1, 3) := by decide +kernel
theorem dX3_firstUnfit_40 : decode cX3_firstUnfit 40 = .ok (.goto (-36), 3) := by decide +kernel
theorem dX3_firstUnfit_43 : decode cX3_firstUnfit 43 = .ok (.aload_n 0, 1) := by decide +kernel
theorem dX3_firstUnfit_44 : decode cX3_firstUnfit 44 = .ok (.getfield 15, 3) := by decide +kernel
theorem dX3_firstUnfit_47 : decode cX3_firstUnfit 47 = .ok (.ifCond .le 16, 3) := by decide +kernel
theorem dX3_firstUnfit_50 : decode cX3_firstUnfit 50 = .ok (.iload_n 1, 1) := by decide +kernel
theorem dX3_firstUnfit_51 : decode cX3_firstUnfit 51 = .ok (.aload_n 0, 1) := by decide +kernel
theorem dX3_firstUnfit_52 : decode cX3_firstUnfit 52 = .ok (.getfield 15, 3) := by decide +kernel
theorem dX3_firstUnfit_55 : decode cX3_firstUnfit 55 = .ok (.if_icmp .ne 8, 3) := by decide +kernel
theorem dX3_firstUnfit_58 : decode cX3_firstUnfit 58 = .ok (.bipush (-9), 2) := by decide +kernel
theorem dX3_firstUnfit_60 : decode cX3_firstUnfit 60 = .ok (.goto 7, 3) := by decide +kernel
theorem dX3_firstUnfit_63 : decode cX3_firstUnfit 63 = .ok (.aload_n 0, 1) := by decide +kernel
theorem dX3_firstUnfit_64 : decode cX3_firstUnfit 64 = .ok (.getfield 15, 3) := by decide +kernel
theorem dX3_firstUnfit_67 : decode cX3_firstUnfit 67 = .ok (.ireturn, 1) := by decide +kernel
theorem dX3_fits_0 : decode cX3_fits 0 = .ok (.aload_n 0, 1) := by decide +kernel
theorem dX3_fits_1 : decode cX3_fits 1 = .ok (.iload_n 1, 1) := by decide +kernel
theorem dX3_fits_2 : decode cX3_fits 2 = .ok (.invokevirtual 31, 3) := by decide +kernel
theorem dX3_fits_5 : decode cX3_fits 5 = .ok (.istore_n 3, 1) := by decide +kernel
theorem dX3_fits_6 : decode cX3_fits 6 = .ok (.aload_n 0, 1) := by decide +kernel
theorem dX3_fits_7 : decode cX3_fits 7 = .ok (.iload_n 2, 1) := by decide +kernel
theorem dX3_fits_8 : decode cX3_fits 8 = .ok (.invokevirtual 31, 3) := by decide +kernel
theorem dX3_fits_11 : decode cX3_fits 11 = .ok (.istore 4, 2) := by decide +kernel
theorem dX3_fits_13 : decode cX3_fits 13 = .ok (.iload_n 2, 1) := by decide +kernel
theorem dX3_fits_14 : decode cX3_fits 14 = .ok (.iload_n 1, 1) := by decide +kernel
theorem dX3_fits_15 : decode cX3_fits 15 = .ok (.isub, 1) := by decide +kernel
theorem dX3_fits_16 : decode cX3_fits 16 = .ok (.istore 5, 2) := by decide +kernel
theorem dX3_fits_18 : decode cX3_fits 18 = .ok (.iload 5, 2) := by decide +kernel
theorem dX3_fits_20 : decode cX3_fits 20 = .ok (.ifCond .ne 16, 3) := by decide +kernel
theorem dX3_fits_23 : decode cX3_fits 23 = .ok (.iload_n 3, 1) := by decide +kernel
theorem dX3_fits_24 : decode cX3_fits 24 = .ok (.invokestatic 35, 3) := by decide +kernel
theorem dX3_fits_27 : decode cX3_fits 27 = .ok (.ifCond .le 7, 3) := by decide +kernel
theorem dX3_fits_30 : decode cX3_fits 30 = .ok (.iconst 1, 1) := by decide +kernel
theorem dX3_fits_31 : decode cX3_fits 31 = .ok (.goto 4, 3) := by decide +kernel
theorem dX3_fits_34 : decode cX3_fits 34 = .ok (.iconst 0, 1) := by decide +kernel
theorem dX3_fits_35 : decode cX3_fits 35 = .ok (.ireturn, 1) := by decide +kernel
theorem dX3_fits_36 : decode cX3_fits 36 = .ok (.iload 5, 2) := by decide +kernel
theorem dX3_fits_38 : decode cX3_fits 38 = .ok (.iload_n 3, 1) := by decide +kernel
theorem dX3_fits_39 : decode cX3_fits 39 = .ok (.invokestatic 35, 3) := by decide +kernel
theorem dX3_fits_42 : decode cX3_fits 42 = .ok (.if_icmp .ne 16, 3) := by decide +kernel
theorem dX3_fits_45 : decode cX3_fits 45 = .ok (.iload 4, 2) := by decide +kernel
theorem dX3_fits_47 : decode cX3_fits 47 = .ok (.bipush 59, 2) := by decide +kernel
theorem dX3_fits_49 : decode cX3_fits 49 = .ok (.if_icmp .ne 7, 3) := by decide +kernel
theorem dX3_fits_52 : decode cX3_fits 52 = .ok (.iconst 1, 1) := by decide +kernel
theorem dX3_fits_53 : decode cX3_fits 53 = .ok (.goto 4, 3) := by decide +kernel
theorem dX3_fits_56 : decode cX3_fits 56 = .ok (.iconst 0, 1) := by decide +kernel
theorem dX3_fits_57 : decode cX3_fits 57 = .ok (.ireturn, 1) := by decide +kernel
theorem dX3_fits_58 : decode cX3_fits 58 = .ok (.iload 5, 2) := by decide +kernel
theorem dX3_fits_60 : decode cX3_fits 60 = .ok (.iconst 1, 1) := by decide +kernel
theorem dX3_fits_61 : decode cX3_fits 61 = .ok (.if_icmp .ne 23, 3) := by decide +kernel
theorem dX3_fits_64 : decode cX3_fits 64 = .ok (.iload_n 3, 1) := by decide +kernel
theorem dX3_fits_65 : decode cX3_fits 65 = .ok (.bipush 104, 2) := by decide +kernel
theorem dX3_fits_67 : decode cX3_fits 67 = .ok (.if_icmp .ne 17, 3) := by decide +kernel
theorem dX3_fits_70 : decode cX3_fits 70 = .ok (.iload 4, 2) := by decide +kernel
theorem dX3_fits_72 : decode cX3_fits 72 = .ok (.invokestatic 45, 3) := by decide +kernel
theorem dX3_fits_75 : decode cX3_fits 75 = .ok (.ifCond .lt 7, 3) := by decide +kernel
theorem dX3_fits_78 : decode cX3_fits 78 = .ok (.iconst 1, 1) := by decide +kernel
theorem dX3_fits_79 : decode cX3_fits 79 = .ok (.goto 4, 3) := by decide +kernel
theorem dX3_fits_82 : decode cX3_fits 82 = .ok (.iconst 0, 1) := by decide +kernel
theorem dX3_fits_83 : decode cX3_fits 83 = .ok (.ireturn, 1) := by decide +kernel
theorem dX3_fits_84 : decode cX3_fits 84 = .ok (.iload 4, 2) := by decide +kernel
theorem dX3_fits_86 : decode cX3_fits 86 = .ok (.bipush 48, 2) := by decide +kernel
theorem dX3_fits_88 : decode cX3_fits 88 = .ok (.if_icmp .lt 14, 3) := by decide +kernel
theorem dX3_fits_91 : decode cX3_fits 91 = .ok (.iload 4, 2) := by decide +kernel
theorem dX3_fits_93 : decode cX3_fits 93 = .ok (.bipush 57, 2) := by decide +kernel
theorem dX3_fits_95 : decode cX3_fits 95 = .ok (.if_icmp .gt 7, 3) := by decide +kernel
theorem dX3_fits_98 : decode cX3_fits 98 = .ok (.iconst 1, 1) := by decide +kernel
theorem dX3_fits_99 : decode cX3_fits 99 = .ok (.goto 4, 3) := by decide +kernel
theorem dX3_fits_102 : decode cX3_fits 102 = .ok (.iconst 0, 1) := by decide +kernel
theorem dX3_fits_103 : decode cX3_fits 103 = .ok (.ireturn, 1) := by decide +kernel
theorem dX3_tellStatement_0 : decode cX3_tellStatement 0 = .ok (.aload_n 0, 1) := by decide +kernel
theorem dX3_tellStatement_1 : decode cX3_tellStatement 1 = .ok (.iload_n 2, 1) := by decide +kernel
theorem dX3_tellStatement_2 : decode cX3_tellStatement 2 = .ok (.iconst 1, 1) := by decide +kernel
theorem dX3_tellStatement_3 : decode cX3_tellStatement 3 = .ok (.iadd, 1) := by decide +kernel
theorem dX3_tellStatement_4 : decode cX3_tellStatement 4 = .ok (.invokevirtual 48, 3) := by decide +kernel
theorem dX3_tellStatement_7 : decode cX3_tellStatement 7 = .ok (.istore_n 3, 1) := by decide +kernel
theorem dX3_tellStatement_8 : decode cX3_tellStatement 8 = .ok (.aload_n 0, 1) := by decide +kernel
theorem dX3_tellStatement_9 : decode cX3_tellStatement 9 = .ok (.iload_n 2, 1) := by decide +kernel
theorem dX3_tellStatement_10 : decode cX3_tellStatement 10 = .ok (.iconst 2, 1) := by decide +kernel
theorem dX3_tellStatement_11 : decode cX3_tellStatement 11 = .ok (.iadd, 1) := by decide +kernel
theorem dX3_tellStatement_12 : decode cX3_tellStatement 12 = .ok (.invokevirtual 48, 3) := by decide +kernel
theorem dX3_tellStatement_15 : decode cX3_tellStatement 15 = .ok (.istore 4, 2) := by decide +kernel
theorem dX3_tellStatement_17 : decode cX3_tellStatement 17 = .ok (.aload_n 0, 1) := by decide +kernel
theorem dX3_tellStatement_18 : decode cX3_tellStatement 18 = .ok (.iload_n 2, 1) := by decide +kernel
theorem dX3_tellStatement_19 : decode cX3_tellStatement 19 = .ok (.invokevirtual 31, 3) := by decide +kernel
theorem dX3_tellStatement_22 : decode cX3_tellStatement 22 = .ok (.lookupswitch 107 #[(97, 87), (100, 95), (104, 66), (114, 58), (115, 73), (119, 79)], 58) := by decide +kernel
theorem dX3_tellStatement_80 : decode cX3_tellStatement 80 = .ok (.aload_n 1, 1) := by decide +kernel
theorem dX3_tellStatement_81 : decode cX3_tellStatement 81 = .ok (.iload_n 3, 1) := by decide +kernel
theorem dX3_tellStatement_82 : decode cX3_tellStatement 82 = .ok (.iload 4, 2) := by decide +kernel
theorem dX3_tellStatement_84 : decode cX3_tellStatement 84 = .ok (.invokevirtual 51, 3) := by decide +kernel
theorem dX3_tellStatement_87 : decode cX3_tellStatement 87 = .ok (.ireturn, 1) := by decide +kernel
theorem dX3_tellStatement_88 : decode cX3_tellStatement 88 = .ok (.aload_n 0, 1) := by decide +kernel
theorem dX3_tellStatement_89 : decode cX3_tellStatement 89 = .ok (.aload_n 1, 1) := by decide +kernel
theorem dX3_tellStatement_90 : decode cX3_tellStatement 90 = .ok (.iload_n 2, 1) := by decide +kernel
theorem dX3_tellStatement_91 : decode cX3_tellStatement 91 = .ok (.invokevirtual 56, 3) := by decide +kernel
theorem dX3_tellStatement_94 : decode cX3_tellStatement 94 = .ok (.ireturn, 1) := by decide +kernel
theorem dX3_tellStatement_95 : decode cX3_tellStatement 95 = .ok (.aload_n 1, 1) := by decide +kernel
theorem dX3_tellStatement_96 : decode cX3_tellStatement 96 = .ok (.iload_n 3, 1) := by decide +kernel
theorem dX3_tellStatement_97 : decode cX3_tellStatement 97 = .ok (.invokevirtual 59, 3) := by decide +kernel
theorem dX3_tellStatement_100 : decode cX3_tellStatement 100 = .ok (.ireturn, 1) := by decide +kernel
theorem dX3_tellStatement_101 : decode cX3_tellStatement 101 = .ok (.aload_n 1, 1) := by decide +kernel
theorem dX3_tellStatement_102 : decode cX3_tellStatement 102 = .ok (.iload_n 3, 1) := by decide +kernel
theorem dX3_tellStatement_103 : decode cX3_tellStatement 103 = .ok (.iload 4, 2) := by decide +kernel
theorem dX3_tellStatement_105 : decode cX3_tellStatement 105 = .ok (.invokevirtual 63, 3) := by decide +kernel
theorem dX3_tellStatement_108 : decode cX3_tellStatement 108 = .ok (.ireturn, 1) := by decide +kernel
theorem dX3_tellStatement_109 : decode cX3_tellStatement 109 = .ok (.aload_n 1, 1) := by decide +kernel
theorem dX3_tellStatement_110 : decode cX3_tellStatement 110 = .ok (.iload_n 3, 1) := by decide +kernel
theorem dX3_tellStatement_111 : decode cX3_tellStatement 111 = .ok (.iload 4, 2) := by decide +kernel
theorem dX3_tellStatement_113 : decode cX3_tellStatement 113 = .ok (.invokevirtual 66, 3) := by decide +kernel
theorem dX3_tellStatement_116 : decode cX3_tellStatement 116 = .ok (.ireturn, 1) := by decide +kernel
theorem dX3_tellStatement_117 : decode cX3_tellStatement 117 = .ok (.aload_n 1, 1) := by decide +kernel
theorem dX3_tellStatement_118 : decode cX3_tellStatement 118 = .ok (.bipush 10, 2) := by decide +kernel
theorem dX3_tellStatement_120 : decode cX3_tellStatement 120 = .ok (.iload_n 3, 1) := by decide +kernel
theorem dX3_tellStatement_121 : decode cX3_tellStatement 121 = .ok (.imul, 1) := by decide +kernel
theorem dX3_tellStatement_122 : decode cX3_tellStatement 122 = .ok (.iload 4, 2) := by decide +kernel
theorem dX3_tellStatement_124 : decode cX3_tellStatement 124 = .ok (.iadd, 1) := by decide +kernel
theorem dX3_tellStatement_125 : decode cX3_tellStatement 125 = .ok (.invokevirtual 69, 3) := by decide +kernel
theorem dX3_tellStatement_128 : decode cX3_tellStatement 128 = .ok (.ireturn, 1) := by decide +kernel
theorem dX3_tellStatement_129 : decode cX3_tellStatement 129 = .ok (.iconst 0, 1) := by decide +kernel
theorem dX3_tellStatement_130 : decode cX3_tellStatement 130 = .ok (.ireturn, 1) := by decide +kernel
theorem dX3_tellRider_0 : decode cX3_tellRider 0 = .ok (.aload_n 0, 1) := by decide +kernel
theorem dX3_tellRider_1 : decode cX3_tellRider 1 = .ok (.iload_n 2, 1) := by decide +kernel
theorem dX3_tellRider_2 : decode cX3_tellRider 2 = .ok (.iconst 1, 1) := by decide +kernel
theorem dX3_tellRider_3 : decode cX3_tellRider 3 = .ok (.iadd, 1) := by decide +kernel
theorem dX3_tellRider_4 : decode cX3_tellRider 4 = .ok (.invokevirtual 31, 3) := by decide +kernel
theorem dX3_tellRider_7 : decode cX3_tellRider 7 = .ok (.invokestatic 45, 3) := by decide +kernel
theorem dX3_tellRider_10 : decode cX3_tellRider 10 = .ok (.istore_n 3, 1) := by decide +kernel
theorem dX3_tellRider_11 : decode cX3_tellRider 11 = .ok (.aload_n 1, 1) := by decide +kernel
theorem dX3_tellRider_12 : decode cX3_tellRider 12 = .ok (.iload_n 3, 1) := by decide +kernel
theorem dX3_tellRider_13 : decode cX3_tellRider 13 = .ok (.aload_n 0, 1) := by decide +kernel
theorem dX3_tellRider_14 : decode cX3_tellRider 14 = .ok (.iload_n 2, 1) := by decide +kernel
theorem dX3_tellRider_15 : decode cX3_tellRider 15 = .ok (.iconst 2, 1) := by decide +kernel
theorem dX3_tellRider_16 : decode cX3_tellRider 16 = .ok (.iadd, 1) := by decide +kernel
theorem dX3_tellRider_17 : decode cX3_tellRider 17 = .ok (.invokevirtual 48, 3) := by decide +kernel
theorem dX3_tellRider_20 : decode cX3_tellRider 20 = .ok (.aload_n 0, 1) := by decide +kernel
theorem dX3_tellRider_21 : decode cX3_tellRider 21 = .ok (.iload_n 2, 1) := by decide +kernel
theorem dX3_tellRider_22 : decode cX3_tellRider 22 = .ok (.iconst 3, 1) := by decide +kernel
theorem dX3_tellRider_23 : decode cX3_tellRider 23 = .ok (.iadd, 1) := by decide +kernel
theorem dX3_tellRider_24 : decode cX3_tellRider 24 = .ok (.invokevirtual 48, 3) := by decide +kernel
theorem dX3_tellRider_27 : decode cX3_tellRider 27 = .ok (.aload_n 0, 1) := by decide +kernel
theorem dX3_tellRider_28 : decode cX3_tellRider 28 = .ok (.iload_n 2, 1) := by decide +kernel
theorem dX3_tellRider_29 : decode cX3_tellRider 29 = .ok (.iconst 4, 1) := by decide +kernel
theorem dX3_tellRider_30 : decode cX3_tellRider 30 = .ok (.iadd, 1) := by decide +kernel
theorem dX3_tellRider_31 : decode cX3_tellRider 31 = .ok (.invokevirtual 48, 3) := by decide +kernel
theorem dX3_tellRider_34 : decode cX3_tellRider 34 = .ok (.aload_n 0, 1) := by decide +kernel
theorem dX3_tellRider_35 : decode cX3_tellRider 35 = .ok (.iload_n 2, 1) := by decide +kernel
theorem dX3_tellRider_36 : decode cX3_tellRider 36 = .ok (.iconst 5, 1) := by decide +kernel
theorem dX3_tellRider_37 : decode cX3_tellRider 37 = .ok (.iadd, 1) := by decide +kernel
theorem dX3_tellRider_38 : decode cX3_tellRider 38 = .ok (.invokevirtual 48, 3) := by decide +kernel
theorem dX3_tellRider_41 : decode cX3_tellRider 41 = .ok (.invokevirtual 72, 3) := by decide +kernel
theorem dX3_tellRider_44 : decode cX3_tellRider 44 = .ok (.ireturn, 1) := by decide +kernel
end
section
theorem dX4_init_0 : decode cX4_init 0 = .ok (.aload_n 0, 1) := by decide +kernel
theorem dX4_init_1 : decode cX4_init 1 = .ok (.invokespecial 3, 3) := by decide +kernel
theorem dX4_init_4 : decode cX4_init 4 = .ok (.aload_n 0, 1) := by decide +kernel
theorem dX4_init_5 : decode cX4_init 5 = .ok (.new 9, 3) := by decide +kernel
theorem dX4_init_8 : decode cX4_init 8 = .ok (.dup, 1) := by decide +kernel
theorem dX4_init_9 : decode cX4_init 9 = .ok (.invokespecial 11, 3) := by decide +kernel
theorem dX4_init_12 : decode cX4_init 12 = .ok (.putfield 12, 3) := by decide +kernel
theorem dX4_init_15 : decode cX4_init 15 = .ok (.aload_n 0, 1) := by decide +kernel
theorem dX4_init_16 : decode cX4_init 16 = .ok (.new 9, 3) := by decide +kernel
theorem dX4_init_19 : decode cX4_init 19 = .ok (.dup, 1) := by decide +kernel
theorem dX4_init_20 : decode cX4_init 20 = .ok (.invokespecial 11, 3) := by decide +kernel
theorem dX4_init_23 : decode cX4_init 23 = .ok (.putfield 16, 3) := by decide +kernel
theorem dX4_init_26 : decode cX4_init 26 = .ok (.aload_n 0, 1) := by decide +kernel
theorem dX4_init_27 : decode cX4_init 27 = .ok (.new 9, 3) := by decide +kernel
theorem dX4_init_30 : decode cX4_init 30 = .ok (.dup, 1) := by decide +kernel
theorem dX4_init_31 : decode cX4_init 31 = .ok (.invokespecial 11, 3) := by decide +kernel
theorem dX4_init_34 : decode cX4_init 34 = .ok (.putfield 19, 3) := by decide +kernel
theorem dX4_init_37 : decode cX4_init 37 = .ok (.aload_n 0, 1) := by decide +kernel
theorem dX4_init_38 : decode cX4_init 38 = .ok (.new 22, 3) := by decide +kernel
theorem dX4_init_41 : decode cX4_init 41 = .ok (.dup, 1) := by decide +kernel
theorem dX4_init_42 : decode cX4_init 42 = .ok (.invokespecial 24, 3) := by decide +kernel
theorem dX4_init_45 : decode cX4_init 45 = .ok (.putfield 25, 3) := by decide +kernel
theorem dX4_init_48 : decode cX4_init 48 = .ok (.aload_n 0, 1) := by decide +kernel
theorem dX4_init_49 : decode cX4_init 49 = .ok (.new 29, 3) := by decide +kernel
theorem dX4_init_52 : decode cX4_init 52 = .ok (.dup, 1) := by decide +kernel
theorem dX4_init_53 : decode cX4_init 53 = .ok (.invokespecial 31, 3) := by decide +kernel
theorem dX4_init_56 : decode cX4_init 56 = .ok (.putfield 32, 3) := by decide +kernel
theorem dX4_init_59 : decode cX4_init 59 = .ok (.aload_n 0, 1) := by decide +kernel
theorem dX4_init_60 : decode cX4_init 60 = .ok (.new 29, 3) := by decide +kernel
theorem dX4_init_63 : decode cX4_init 63 = .ok (.dup, 1) := by decide +kernel
theorem dX4_init_64 : decode cX4_init 64 = .ok (.invokespecial 31, 3) := by decide +kernel
theorem dX4_init_67 : decode cX4_init 67 = .ok (.putfield 36, 3) := by decide +kernel
theorem dX4_init_70 : decode cX4_init 70 = .ok (.aload_n 0, 1) := by decide +kernel
theorem dX4_init_71 : decode cX4_init 71 = .ok (.new 39, 3) := by decide +kernel
theorem dX4_init_74 : decode cX4_init 74 = .ok (.dup, 1) := by decide +kernel
theorem dX4_init_75 : decode cX4_init 75 = .ok (.invokespecial 41, 3) := by decide +kernel
theorem dX4_init_78 : decode cX4_init 78 = .ok (.putfield 42, 3) := by decide +kernel
theorem dX4_init_81 : decode cX4_init 81 = .ok (.aload_n 0, 1) := by decide +kernel
theorem dX4_init_82 : decode cX4_init 82 = .ok (.bipush 16, 2) := by decide +kernel
theorem dX4_init_84 : decode cX4_init 84 = .ok (.newarray .int, 2) := by decide +kernel
theorem dX4_init_86 : decode cX4_init 86 = .ok (.putfield 46, 3) := by decide +kernel
theorem dX4_init_89 : decode cX4_init 89 = .ok (.aload_n 0, 1) := by decide +kernel
theorem dX4_init_90 : decode cX4_init 90 = .ok (.bipush 7, 2) := by decide +kernel
theorem dX4_init_92 : decode cX4_init 92 = .ok (.newarray .int, 2) := by decide +kernel
theorem dX4_init_94 : decode cX4_init 94 = .ok (.putfield 50, 3) := by decide +kernel
theorem dX4_init_97 : decode cX4_init 97 = .ok (.aload_n 0, 1) := by decide +kernel
theorem dX4_init_98 : decode cX4_init 98 = .ok (.bipush 8, 2) := by decide +kernel
theorem dX4_init_100 : decode cX4_init 100 = .ok (.newarray .int, 2) := by decide +kernel
theorem dX4_init_102 : decode cX4_init 102 = .ok (.putfield 53, 3) := by decide +kernel
theorem dX4_init_105 : decode cX4_init 105 = .ok (.aload_n 0, 1) := by decide +kernel
theorem dX4_init_106 : decode cX4_init 106 = .ok (.bipush 8, 2) := by decide +kernel
theorem dX4_init_108 : decode cX4_init 108 = .ok (.newarray .long, 2) := by decide +kernel
theorem dX4_init_110 : decode cX4_init 110 = .ok (.putfield 56, 3) := by decide +kernel
theorem dX4_init_113 : decode cX4_init 113 = .ok (.aload_n 0, 1) := by decide +kernel
theorem dX4_init_114 : decode cX4_init 114 = .ok (.bipush 8, 2) := by decide +kernel
theorem dX4_init_116 : decode cX4_init 116 = .ok (.newarray .long, 2) := by decide +kernel
theorem dX4_init_118 : decode cX4_init 118 = .ok (.putfield 60, 3) := by decide +kernel
theorem dX4_init_121 : decode cX4_init 121 = .ok (.return_, 1) := by decide +kernel
theorem dX4_letter_0 : decode cX4_letter 0 = .ok (.iload_n 1, 1) := by decide +kernel
theorem dX4_letter_1 : decode cX4_letter 1 = .ok (.ifCond .ge 10, 3) := by decide +kernel
theorem dX4_letter_4 : decode cX4_letter 4 = .ok (.aload_n 0, 1) := by decide +kernel
theorem dX4_letter_5 : decode cX4_letter 5 = .ok (.bipush (-4), 2) := by decide +kernel
theorem dX4_letter_7 : decode cX4_letter 7 = .ok (.invokevirtual 63, 3) := by decide +kernel
theorem dX4_letter_10 : decode cX4_letter 10 = .ok (.ireturn, 1) := by decide +kernel
theorem dX4_letter_11 : decode cX4_letter 11 = .ok (.iload_n 1, 1) := by decide +kernel
theorem dX4_letter_12 : decode cX4_letter 12 = .ok (.sipush 255, 3) := by decide +kernel
theorem dX4_letter_15 : decode cX4_letter 15 = .ok (.if_icmp .gt 13, 3) := by decide +kernel
theorem dX4_letter_18 : decode cX4_letter 18 = .ok (.aload_n 0, 1) := by decide +kernel
theorem dX4_letter_19 : decode cX4_letter 19 = .ok (.getfield 42, 3) := by decide +kernel
theorem dX4_letter_22 : decode cX4_letter 22 = .ok (.invokevirtual 67, 3) := by decide +kernel
theorem dX4_letter_25 : decode cX4_letter 25 = .ok (.ifCond .eq 10, 3) := by decide +kernel
theorem dX4_letter_28 : decode cX4_letter 28 = .ok (.aload_n 0, 1) := by decide +kernel
theorem dX4_letter_29 : decode cX4_letter 29 = .ok (.bipush (-6), 2) := by decide +kernel
theorem dX4_letter_31 : decode cX4_letter 31 = .ok (.invokevirtual 63, 3) := by decide +kernel
theorem dX4_letter_34 : decode cX4_letter 34 = .ok (.ireturn, 1) := by decide +kernel
theorem dX4_letter_35 : decode cX4_letter 35 = .ok (.aload_n 0, 1) := by decide +kernel
theorem dX4_letter_36 : decode cX4_letter 36 = .ok (.getfield 42, 3) := by decide +kernel
theorem dX4_letter_39 : decode cX4_letter 39 = .ok (.iload_n 1, 1) := by decide +kernel
theorem dX4_letter_40 : decode cX4_letter 40 = .ok (.invokevirtual 71, 3) := by decide +kernel
theorem dX4_letter_43 : decode cX4_letter 43 = .ok (.ireturn, 1) := by decide +kernel
theorem dX4_county_0 : decode cX4_county 0 = .ok (.aload_n 0, 1) := by decide +kernel
theorem dX4_county_1 : decode cX4_county 1 = .ok (.getfield 19, 3) := by decide +kernel
theorem dX4_county_4 : decode cX4_county 4 = .ok (.aload_n 0, 1) := by decide +kernel
theorem dX4_county_5 : decode cX4_county 5 = .ok (.getfield 12, 3) := by decide +kernel
theorem dX4_county_8 : decode cX4_county 8 = .ok (.invokevirtual 74, 3) := by decide +kernel
theorem dX4_county_11 : decode cX4_county 11 = .ok (.aload_n 0, 1) := by decide +kernel
theorem dX4_county_12 : decode cX4_county 12 = .ok (.getfield 42, 3) := by decide +kernel
theorem dX4_county_15 : decode cX4_county 15 = .ok (.aload_n 0, 1) := by decide +kernel
theorem dX4_county_16 : decode cX4_county 16 = .ok (.getfield 19, 3) := by decide +kernel
theorem dX4_county_19 : decode cX4_county 19 = .ok (.invokevirtual 78, 3) := by decide +kernel
theorem dX4_county_22 : decode cX4_county 22 = .ok (.istore_n 1, 1) := by decide +kernel
theorem dX4_county_23 : decode cX4_county 23 = .ok (.iload_n 1, 1) := by decide +kernel
theorem dX4_county_24 : decode cX4_county 24 = .ok (.ifCond .lt 14, 3) := by decide +kernel
theorem dX4_county_27 : decode cX4_county 27 = .ok (.aload_n 0, 1) := by decide +kernel
theorem dX4_county_28 : decode cX4_county 28 = .ok (.getfield 12, 3) := by decide +kernel
theorem dX4_county_31 : decode cX4_county 31 = .ok (.aload_n 0, 1) := by decide +kernel
theorem dX4_county_32 : decode cX4_county 32 = .ok (.getfield 19, 3) := by decide +kernel
theorem dX4_county_35 : decode cX4_county 35 = .ok (.invokevirtual 74, 3) := by decide +kernel
theorem dX4_county_38 : decode cX4_county 38 = .ok (.aload_n 0, 1) := by decide +kernel
theorem dX4_county_39 : decode cX4_county 39 = .ok (.getfield 42, 3) := by decide +kernel
theorem dX4_county_42 : decode cX4_county 42 = .ok (.invokevirtual 82, 3) := by decide +kernel
theorem dX4_county_45 : decode cX4_county 45 = .ok (.iload_n 1, 1) := by decide +kernel
theorem dX4_county_46 : decode cX4_county 46 = .ok (.ireturn, 1) := by decide +kernel
theorem dX4_rider_0 : decode cX4_rider 0 = .ok (.aload_n 0, 1) := by decide +kernel
theorem dX4_rider_1 : decode cX4_rider 1 = .ok (.getfield 12, 3) := by decide +kernel
theorem dX4_rider_4 : decode cX4_rider 4 = .ok (.iload_n 1, 1) := by decide +kernel
theorem dX4_rider_5 : decode cX4_rider 5 = .ok (.invokevirtual 85, 3) := by decide +kernel
theorem dX4_rider_8 : decode cX4_rider 8 = .ok (.ifCond .ne 9, 3) := by decide +kernel
theorem dX4_rider_11 : decode cX4_rider 11 = .ok (.aload_n 0, 1) := by decide +kernel
theorem dX4_rider_12 : decode cX4_rider 12 = .ok (.iconst (-1), 1) := by decide +kernel
theorem dX4_rider_13 : decode cX4_rider 13 = .ok (.invokevirtual 63, 3) := by decide +kernel
theorem dX4_rider_16 : decode cX4_rider 16 = .ok (.ireturn, 1) := by decide +kernel
theorem dX4_rider_17 : decode cX4_rider 17 = .ok (.aload_n 0, 1) := by decide +kernel
theorem dX4_rider_18 : decode cX4_rider 18 = .ok (.getfield 12, 3) := by decide +kernel
theorem dX4_rider_21 : decode cX4_rider 21 = .ok (.getfield 89, 3) := by decide +kernel
theorem dX4_rider_24 : decode cX4_rider 24 = .ok (.iload_n 1, 1) := by decide +kernel
theorem dX4_rider_25 : decode cX4_rider 25 = .ok (.aaload, 1) := by decide +kernel
theorem dX4_rider_26 : decode cX4_rider 26 = .ok (.astore_n 3, 1) := by decide +kernel
theorem dX4_rider_27 : decode cX4_rider 27 = .ok (.iload_n 2, 1) := by decide +kernel
theorem dX4_rider_28 : decode cX4_rider 28 = .ok (.tableswitch 88 0 7 #[48, 53, 58, 63, 68, 73, 78, 83], 48) := by decide +kernel
theorem dX4_rider_76 : decode cX4_rider 76 = .ok (.aload_n 3, 1) := by decide +kernel
theorem dX4_rider_77 : decode cX4_rider 77 = .ok (.getfield 93, 3) := by decide +kernel
theorem dX4_rider_80 : decode cX4_rider 80 = .ok (.ireturn, 1) := by decide +kernel
theorem dX4_rider_81 : decode cX4_rider 81 = .ok (.aload_n 3, 1) := by decide +kernel
theorem dX4_rider_82 : decode cX4_rider 82 = .ok (.getfield 97, 3) := by decide +kernel
theorem dX4_rider_85 : decode cX4_rider 85 = .ok (.ireturn, 1) := by decide +kernel
theorem dX4_rider_86 : decode cX4_rider 86 = .ok (.aload_n 3, 1) := by decide +kernel
theorem dX4_rider_87 : decode cX4_rider 87 = .ok (.getfield 100, 3) := by decide +kernel
theorem dX4_rider_90 : decode cX4_rider 90 = .ok (.ireturn, 1) := by decide +kernel
theorem dX4_rider_91 : decode cX4_rider 91 = .ok (.aload_n 3, 1) := by decide +kernel
theorem dX4_rider_92 : decode cX4_rider 92 = .ok (.getfield 103, 3) := by decide +kernel
theorem dX4_rider_95 : decode cX4_rider 95 = .ok (.ireturn, 1) := by decide +kernel
theorem dX4_rider_96 : decode cX4_rider 96 = .ok (.aload_n 3, 1) := by decide +kernel
theorem dX4_rider_97 : decode cX4_rider 97 = .ok (.getfield 106, 3) := by decide +kernel
theorem dX4_rider_100 : decode cX4_rider 100 = .ok (.ireturn, 1) := by decide +kernel
theorem dX4_rider_101 : decode cX4_rider 101 = .ok (.aload_n 3, 1) := by decide +kernel
theorem dX4_rider_102 : decode cX4_rider 102 = .ok (.getfield 109, 3) := by decide +kernel
theorem dX4_rider_105 : decode cX4_rider 105 = .ok (.ireturn, 1) := by decide +kernel
theorem dX4_rider_106 : decode cX4_rider 106 = .ok (.aload_n 3, 1) := by decide +kernel
theorem dX4_rider_107 : decode cX4_rider 107 = .ok (.getfield 112, 3) := by decide +kernel
theorem dX4_rider_110 : decode cX4_rider 110 = .ok (.ireturn, 1) := by decide +kernel
theorem dX4_rider_111 : decode cX4_rider 111 = .ok (.aload_n 3, 1) := by decide +kernel
theorem dX4_rider_112 : decode cX4_rider 112 = .ok (.invokevirtual 115, 3) := by decide +kernel
theorem dX4_rider_115 : decode cX4_rider 115 = .ok (.ireturn, 1) := by decide +kernel
theorem dX4_rider_116 : decode cX4_rider 116 = .ok (.aload_n 0, 1) := by decide +kernel
theorem dX4_rider_117 : decode cX4_rider 117 = .ok (.bipush (-2), 2) := by decide +kernel
theorem dX4_rider_119 : decode cX4_rider 119 = .ok (.invokevirtual 63, 3) := by decide +kernel
theorem dX4_rider_122 : decode cX4_rider 122 = .ok (.ireturn, 1) := by decide +kernel
theorem dX4_steps_0 : decode cX4_steps 0 = .ok (.iload_n 1, 1) := by decide +kernel
theorem dX4_steps_1 : decode cX4_steps 1 = .ok (.invokestatic 119, 3) := by decide +kernel
theorem dX4_steps_4 : decode cX4_steps 4 = .ok (.ifCond .eq 10, 3) := by decide +kernel
theorem dX4_steps_7 : decode cX4_steps 7 = .ok (.iload_n 2, 1) := by decide +kernel
theorem dX4_steps_8 : decode cX4_steps 8 = .ok (.invokestatic 119, 3) := by decide +kernel
theorem dX4_steps_11 : decode cX4_steps 11 = .ok (.ifCond .ne 9, 3) := by decide +kernel
theorem dX4_steps_14 : decode cX4_steps 14 = .ok (.aload_n 0, 1) := by decide +kernel
theorem dX4_steps_15 : decode cX4_steps 15 = .ok (.iconst (-1), 1) := by decide +kernel
theorem dX4_steps_16 : decode cX4_steps 16 = .ok (.invokevirtual 63, 3) := by decide +kernel
theorem dX4_steps_19 : decode cX4_steps 19 = .ok (.ireturn, 1) := by decide +kernel
theorem dX4_steps_20 : decode cX4_steps 20 = .ok (.aload_n 0, 1) := by decide +kernel
theorem dX4_steps_21 : decode cX4_steps 21 = .ok (.getfield 12, 3) := by decide +kernel
theorem dX4_steps_24 : decode cX4_steps 24 = .ok (.getfield 122, 3) := by decide +kernel
theorem dX4_steps_27 : decode cX4_steps 27 = .ok (.iload_n 1, 1) := by decide +kernel
theorem dX4_steps_28 : decode cX4_steps 28 = .ok (.iload_n 2, 1) := by decide +kernel
theorem dX4_steps_29 : decode cX4_steps 29 = .ok (.invokevirtual 125, 3) := by decide +kernel
theorem dX4_steps_32 : decode cX4_steps 32 = .ok (.ireturn, 1) := by decide +kernel
theorem dX4_pulls_0 : decode cX4_pulls 0 = .ok (.aload_n 0, 1) := by decide +kernel
theorem dX4_pulls_1 : decode cX4_pulls 1 = .ok (.getfield 12, 3) := by decide +kernel
theorem dX4_pulls_4 : decode cX4_pulls 4 = .ok (.iload_n 1, 1) := by decide +kernel
theorem dX4_pulls_5 : decode cX4_pulls 5 = .ok (.invokevirtual 85, 3) := by decide +kernel
theorem dX4_pulls_8 : decode cX4_pulls 8 = .ok (.ifCond .eq 10, 3) := by decide +kernel
theorem dX4_pulls_11 : decode cX4_pulls 11 = .ok (.iload_n 2, 1) := by decide +kernel
theorem dX4_pulls_12 : decode cX4_pulls 12 = .ok (.invokestatic 119, 3) := by decide +kernel
theorem dX4_pulls_15 : decode cX4_pulls 15 = .ok (.ifCond .ne 9, 3) := by decide +kernel
theorem dX4_pulls_18 : decode cX4_pulls 18 = .ok (.aload_n 0, 1) := by decide +kernel
theorem dX4_pulls_19 : decode cX4_pulls 19 = .ok (.iconst (-1), 1) := by decide +kernel
theorem dX4_pulls_20 : decode cX4_pulls 20 = .ok (.invokevirtual 63, 3) := by decide +kernel
theorem dX4_pulls_23 : decode cX4_pulls 23 = .ok (.ireturn, 1) := by decide +kernel
theorem dX4_pulls_24 : decode cX4_pulls 24 = .ok (.aload_n 0, 1) := by decide +kernel
theorem dX4_pulls_25 : decode cX4_pulls 25 = .ok (.getfield 12, 3) := by decide +kernel
theorem dX4_pulls_28 : decode cX4_pulls 28 = .ok (.getfield 89, 3) := by decide +kernel
theorem dX4_pulls_31 : decode cX4_pulls 31 = .ok (.iload_n 1, 1) := by decide +kernel
theorem dX4_pulls_32 : decode cX4_pulls 32 = .ok (.aaload, 1) := by decide +kernel
theorem dX4_pulls_33 : decode cX4_pulls 33 = .ok (.aload_n 0, 1) := by decide +kernel
theorem dX4_pulls_34 : decode cX4_pulls 34 = .ok (.getfield 12, 3) := by decide +kernel
theorem dX4_pulls_37 : decode cX4_pulls 37 = .ok (.getfield 122, 3) := by decide +kernel
theorem dX4_pulls_40 : decode cX4_pulls 40 = .ok (.iload_n 2, 1) := by decide +kernel
theorem dX4_pulls_41 : decode cX4_pulls 41 = .ok (.invokevirtual 129, 3) := by decide +kernel
theorem dX4_pulls_44 : decode cX4_pulls 44 = .ok (.ireturn, 1) := by decide +kernel
theorem dX4_roads_0 : decode cX4_roads 0 = .ok (.aload_n 0, 1) := by decide +kernel
theorem dX4_roads_1 : decode cX4_roads 1 = .ok (.getfield 12, 3) := by decide +kernel
theorem dX4_roads_4 : decode cX4_roads 4 = .ok (.iload_n 1, 1) := by decide +kernel
theorem dX4_roads_5 : decode cX4_roads 5 = .ok (.iload_n 2, 1) := by decide +kernel
theorem dX4_roads_6 : decode cX4_roads 6 = .ok (.invokevirtual 133, 3) := by decide +kernel
theorem dX4_roads_9 : decode cX4_roads 9 = .ok (.ifCond .ne 9, 3) := by decide +kernel
theorem dX4_roads_12 : decode cX4_roads 12 = .ok (.aload_n 0, 1) := by decide +kernel
theorem dX4_roads_13 : decode cX4_roads 13 = .ok (.iconst (-1), 1) := by decide +kernel
theorem dX4_roads_14 : decode cX4_roads 14 = .ok (.invokevirtual 63, 3) := by decide +kernel
theorem dX4_roads_17 : decode cX4_roads 17 = .ok (.ireturn, 1) := by decide +kernel
theorem dX4_roads_18 : decode cX4_roads 18 = .ok (.aload_n 0, 1) := by decide +kernel
theorem dX4_roads_19 : decode cX4_roads 19 = .ok (.getfield 12, 3) := by decide +kernel
theorem dX4_roads_22 : decode cX4_roads 22 = .ok (.getfield 122, 3) := by decide +kernel
theorem dX4_roads_25 : decode cX4_roads 25 = .ok (.iload_n 1, 1) := by decide +kernel
theorem dX4_roads_26 : decode cX4_roads 26 = .ok (.iload_n 2, 1) := by decide +kernel
theorem dX4_roads_27 : decode cX4_roads 27 = .ok (.invokevirtual 137, 3) := by decide +kernel
theorem dX4_roads_30 : decode cX4_roads 30 = .ok (.ifCond .eq 7, 3) := by decide +kernel
theorem dX4_roads_33 : decode cX4_roads 33 = .ok (.iconst 1, 1) := by decide +kernel
theorem dX4_roads_34 : decode cX4_roads 34 = .ok (.goto 4, 3) := by decide +kernel
theorem dX4_roads_37 : decode cX4_roads 37 = .ok (.iconst 0, 1) := by decide +kernel
theorem dX4_roads_38 : decode cX4_roads 38 = .ok (.ireturn, 1) := by decide +kernel
theorem dX4_shod_0 : decode cX4_shod 0 = .ok (.aload_n 0, 1) := by decide +kernel
theorem dX4_shod_1 : decode cX4_shod 1 = .ok (.getfield 12, 3) := by decide +kernel
theorem dX4_shod_4 : decode cX4_shod 4 = .ok (.iload_n 1, 1) := by decide +kernel
theorem dX4_shod_5 : decode cX4_shod 5 = .ok (.invokevirtual 140, 3) := by decide +kernel
theorem dX4_shod_8 : decode cX4_shod 8 = .ok (.ifCond .ne 9, 3) := by decide +kernel
theorem dX4_shod_11 : decode cX4_shod 11 = .ok (.aload_n 0, 1) := by decide +kernel
theorem dX4_shod_12 : decode cX4_shod 12 = .ok (.iconst (-1), 1) := by decide +kernel
theorem dX4_shod_13 : decode cX4_shod 13 = .ok (.invokevirtual 63, 3) := by decide +kernel
theorem dX4_shod_16 : decode cX4_shod 16 = .ok (.ireturn, 1) := by decide +kernel
theorem dX4_shod_17 : decode cX4_shod 17 = .ok (.aload_n 0, 1) := by decide +kernel
theorem dX4_shod_18 : decode cX4_shod 18 = .ok (.getfield 12, 3) := by decide +kernel
theorem dX4_shod_21 : decode cX4_shod 21 = .ok (.getfield 89, 3) := by decide +kernel
theorem dX4_shod_24 : decode cX4_shod 24 = .ok (.iload_n 1, 1) := by decide +kernel
theorem dX4_shod_25 : decode cX4_shod 25 = .ok (.aaload, 1) := by decide +kernel
theorem dX4_shod_26 : decode cX4_shod 26 = .ok (.getfield 109, 3) := by decide +kernel
theorem dX4_shod_29 : decode cX4_shod 29 = .ok (.ireturn, 1) := by decide +kernel
theorem dX4_wants_0 : decode cX4_wants 0 = .ok (.aload_n 0, 1) := by decide +kernel
theorem dX4_wants_1 : decode cX4_wants 1 = .ok (.getfield 12, 3) := by decide +kernel
theorem dX4_wants_4 : decode cX4_wants 4 = .ok (.iload_n 1, 1) := by decide +kernel
theorem dX4_wants_5 : decode cX4_wants 5 = .ok (.invokevirtual 85, 3) := by decide +kernel
theorem dX4_wants_8 : decode cX4_wants 8 = .ok (.ifCond .eq 10, 3) := by decide +kernel
theorem dX4_wants_11 : decode cX4_wants 11 = .ok (.iload_n 2, 1) := by decide +kernel
theorem dX4_wants_12 : decode cX4_wants 12 = .ok (.invokestatic 119, 3) := by decide +kernel
theorem dX4_wants_15 : decode cX4_wants 15 = .ok (.ifCond .ne 9, 3) := by decide +kernel
theorem dX4_wants_18 : decode cX4_wants 18 = .ok (.aload_n 0, 1) := by decide +kernel
theorem dX4_wants_19 : decode cX4_wants 19 = .ok (.iconst (-1), 1) := by decide +kernel
theorem dX4_wants_20 : decode cX4_wants 20 = .ok (.invokevirtual 63, 3) := by decide +kernel
theorem dX4_wants_23 : decode cX4_wants 23 = .ok (.ireturn, 1) := by decide +kernel
theorem dX4_wants_24 : decode cX4_wants 24 = .ok (.aload_n 0, 1) := by decide +kernel
theorem dX4_wants_25 : decode cX4_wants 25 = .ok (.getfield 12, 3) := by decide +kernel
theorem dX4_wants_28 : decode cX4_wants 28 = .ok (.getfield 89, 3) := by decide +kernel
theorem dX4_wants_31 : decode cX4_wants 31 = .ok (.iload_n 1, 1) := by decide +kernel
theorem dX4_wants_32 : decode cX4_wants 32 = .ok (.aaload, 1) := by decide +kernel
theorem dX4_wants_33 : decode cX4_wants 33 = .ok (.getfield 100, 3) := by decide +kernel
theorem dX4_wants_36 : decode cX4_wants 36 = .ok (.istore_n 3, 1) := by decide +kernel
theorem dX4_wants_37 : decode cX4_wants 37 = .ok (.aload_n 0, 1) := by decide +kernel
theorem dX4_wants_38 : decode cX4_wants 38 = .ok (.getfield 12, 3) := by decide +kernel
theorem dX4_wants_41 : decode cX4_wants 41 = .ok (.iload_n 1, 1) := by decide +kernel
theorem dX4_wants_42 : decode cX4_wants 42 = .ok (.iload_n 2, 1) := by decide +kernel
theorem dX4_wants_43 : decode cX4_wants 43 = .ok (.invokevirtual 143, 3) := by decide +kernel
theorem dX4_wants_46 : decode cX4_wants 46 = .ok (.pop, 1) := by decide +kernel
theorem dX4_wants_47 : decode cX4_wants 47 = .ok (.iload_n 3, 1) := by decide +kernel
theorem dX4_wants_48 : decode cX4_wants 48 = .ok (.ireturn, 1) := by decide +kernel
theorem dX4_stands_0 : decode cX4_stands 0 = .ok (.aload_n 0, 1) := by decide +kernel
theorem dX4_stands_1 : decode cX4_stands 1 = .ok (.getfield 12, 3) := by decide +kernel
theorem dX4_stands_4 : decode cX4_stands 4 = .ok (.iload_n 1, 1) := by decide +kernel
theorem dX4_stands_5 : decode cX4_stands 5 = .ok (.invokevirtual 85, 3) := by decide +kernel
theorem dX4_stands_8 : decode cX4_stands 8 = .ok (.ifCond .eq 10, 3) := by decide +kernel
theorem dX4_stands_11 : decode cX4_stands 11 = .ok (.iload_n 2, 1) := by decide +kernel
theorem dX4_stands_12 : decode cX4_stands 12 = .ok (.invokestatic 119, 3) := by decide +kernel
theorem dX4_stands_15 : decode cX4_stands 15 = .ok (.ifCond .ne 9, 3) := by decide +kernel
theorem dX4_stands_18 : decode cX4_stands 18 = .ok (.aload_n 0, 1) := by decide +kernel
theorem dX4_stands_19 : decode cX4_stands 19 = .ok (.iconst (-1), 1) := by decide +kernel
theorem dX4_stands_20 : decode cX4_stands 20 = .ok (.invokevirtual 63, 3) := by decide +kernel
theorem dX4_stands_23 : decode cX4_stands 23 = .ok (.ireturn, 1) := by decide +kernel
theorem dX4_stands_24 : decode cX4_stands 24 = .ok (.aload_n 0, 1) := by decide +kernel
theorem dX4_stands_25 : decode cX4_stands 25 = .ok (.getfield 12, 3) := by decide +kernel
theorem dX4_stands_28 : decode cX4_stands 28 = .ok (.getfield 89, 3) := by decide +kernel
theorem dX4_stands_31 : decode cX4_stands 31 = .ok (.iload_n 1, 1) := by decide +kernel
theorem dX4_stands_32 : decode cX4_stands 32 = .ok (.aaload, 1) := by decide +kernel
theorem dX4_stands_33 : decode cX4_stands 33 = .ok (.getfield 106, 3) := by decide +kernel
theorem dX4_stands_36 : decode cX4_stands 36 = .ok (.istore_n 3, 1) := by decide +kernel
theorem dX4_stands_37 : decode cX4_stands 37 = .ok (.aload_n 0, 1) := by decide +kernel
theorem dX4_stands_38 : decode cX4_stands 38 = .ok (.getfield 12, 3) := by decide +kernel
theorem dX4_stands_41 : decode cX4_stands 41 = .ok (.iload_n 1, 1) := by decide +kernel
theorem dX4_stands_42 : decode cX4_stands 42 = .ok (.iload_n 2, 1) := by decide +kernel
theorem dX4_stands_43 : decode cX4_stands 43 = .ok (.invokevirtual 146, 3) := by decide +kernel
theorem dX4_stands_46 : decode cX4_stands 46 = .ok (.pop, 1) := by decide +kernel
theorem dX4_stands_47 : decode cX4_stands 47 = .ok (.iload_n 3, 1) := by decide +kernel
theorem dX4_stands_48 : decode cX4_stands 48 = .ok (.ireturn, 1) := by decide +kernel
theorem dX4_turn_0 : decode cX4_turn 0 = .ok (.aload_n 0, 1) := by decide +kernel
theorem dX4_turn_1 : decode cX4_turn 1 = .ok (.getfield 12, 3) := by decide +kernel
theorem dX4_turn_4 : decode cX4_turn 4 = .ok (.iload_n 1, 1) := by decide +kernel
theorem dX4_turn_5 : decode cX4_turn 5 = .ok (.invokevirtual 85, 3) := by decide +kernel
theorem dX4_turn_8 : decode cX4_turn 8 = .ok (.ifCond .ne 9, 3) := by decide +kernel
theorem dX4_turn_11 : decode cX4_turn 11 = .ok (.aload_n 0, 1) := by decide +kernel
theorem dX4_turn_12 : decode cX4_turn 12 = .ok (.iconst (-1), 1) := by decide +kernel
theorem dX4_turn_13 : decode cX4_turn 13 = .ok (.invokevirtual 63, 3) := by decide +kernel
theorem dX4_turn_16 : decode cX4_turn 16 = .ok (.ireturn, 1) := by decide +kernel
theorem dX4_turn_17 : decode cX4_turn 17 = .ok (.iload_n 2, 1) := by decide +kernel
theorem dX4_turn_18 : decode cX4_turn 18 = .ok (.bipush 6, 2) := by decide +kernel
theorem dX4_turn_20 : decode cX4_turn 20 = .ok (.invokestatic 149, 3) := by decide +kernel
theorem dX4_turn_23 : decode cX4_turn 23 = .ok (.ifCond .ne 10, 3) := by decide +kernel
theorem dX4_turn_26 : decode cX4_turn 26 = .ok (.aload_n 0, 1) := by decide +kernel
theorem dX4_turn_27 : decode cX4_turn 27 = .ok (.bipush (-2), 2) := by decide +kernel
theorem dX4_turn_29 : decode cX4_turn 29 = .ok (.invokevirtual 63, 3) := by decide +kernel
theorem dX4_turn_32 : decode cX4_turn 32 = .ok (.ireturn, 1) := by decide +kernel
theorem dX4_turn_33 : decode cX4_turn 33 = .ok (.iload_n 3, 1) := by decide +kernel
theorem dX4_turn_34 : decode cX4_turn 34 = .ok (.ifCond .ge 10, 3) := by decide +kernel
theorem dX4_turn_37 : decode cX4_turn 37 = .ok (.aload_n 0, 1) := by decide +kernel
theorem dX4_turn_38 : decode cX4_turn 38 = .ok (.bipush (-4), 2) := by decide +kernel
theorem dX4_turn_40 : decode cX4_turn 40 = .ok (.invokevirtual 63, 3) := by decide +kernel
theorem dX4_turn_43 : decode cX4_turn 43 = .ok (.ireturn, 1) := by decide +kernel
theorem dX4_turn_44 : decode cX4_turn 44 = .ok (.iload_n 3, 1) := by decide +kernel
theorem dX4_turn_45 : decode cX4_turn 45 = .ok (.bipush 9, 2) := by decide +kernel
theorem dX4_turn_47 : decode cX4_turn 47 = .ok (.if_icmp .le 10, 3) := by decide +kernel
theorem dX4_turn_50 : decode cX4_turn 50 = .ok (.aload_n 0, 1) := by decide +kernel
theorem dX4_turn_51 : decode cX4_turn 51 = .ok (.bipush (-6), 2) := by decide +kernel
theorem dX4_turn_53 : decode cX4_turn 53 = .ok (.invokevirtual 63, 3) := by decide +kernel
theorem dX4_turn_56 : decode cX4_turn 56 = .ok (.ireturn, 1) := by decide +kernel
theorem dX4_turn_57 : decode cX4_turn 57 = .ok (.aload_n 0, 1) := by decide +kernel
theorem dX4_turn_58 : decode cX4_turn 58 = .ok (.getfield 12, 3) := by decide +kernel
theorem dX4_turn_61 : decode cX4_turn 61 = .ok (.getfield 89, 3) := by decide +kernel
theorem dX4_turn_64 : decode cX4_turn 64 = .ok (.iload_n 1, 1) := by decide +kernel
theorem dX4_turn_65 : decode cX4_turn 65 = .ok (.aaload, 1) := by decide +kernel
theorem dX4_turn_66 : decode cX4_turn 66 = .ok (.astore 4, 2) := by decide +kernel
theorem dX4_turn_68 : decode cX4_turn 68 = .ok (.bipush 10, 2) := by decide +kernel
theorem dX4_turn_70 : decode cX4_turn 70 = .ok (.aload 4, 2) := by decide +kernel
theorem dX4_turn_72 : decode cX4_turn 72 = .ok (.getfield 93, 3) := by decide +kernel
theorem dX4_turn_75 : decode cX4_turn 75 = .ok (.imul, 1) := by decide +kernel
theorem dX4_turn_76 : decode cX4_turn 76 = .ok (.aload 4, 2) := by decide +kernel
theorem dX4_turn_78 : decode cX4_turn 78 = .ok (.getfield 97, 3) := by decide +kernel
theorem dX4_turn_81 : decode cX4_turn 81 = .ok (.iadd, 1) := by decide +kernel
theorem dX4_turn_82 : decode cX4_turn 82 = .ok (.istore 5, 2) := by decide +kernel
theorem dX4_turn_84 : decode cX4_turn 84 = .ok (.aload 4, 2) := by decide +kernel
theorem dX4_turn_86 : decode cX4_turn 86 = .ok (.iload_n 2, 1) := by decide +kernel
theorem dX4_turn_87 : decode cX4_turn 87 = .ok (.putfield 93, 3) := by decide +kernel
theorem dX4_turn_90 : decode cX4_turn 90 = .ok (.aload 4, 2) := by decide +kernel
theorem dX4_turn_92 : decode cX4_turn 92 = .ok (.iload_n 3, 1) := by decide +kernel
theorem dX4_turn_93 : decode cX4_turn 93 = .ok (.putfield 97, 3) := by decide +kernel
theorem dX4_turn_96 : decode cX4_turn 96 = .ok (.iload 5, 2) := by decide +kernel
theorem dX4_turn_98 : decode cX4_turn 98 = .ok (.ireturn, 1) := by decide +kernel
theorem dX4_days_0 : decode cX4_days 0 = .ok (.iload_n 1, 1) := by decide +kernel
theorem dX4_days_1 : decode cX4_days 1 = .ok (.iconst 1, 1) := by decide +kernel
theorem dX4_days_2 : decode cX4_days 2 = .ok (.if_icmp .ge 10, 3) := by decide +kernel
theorem dX4_days_5 : decode cX4_days 5 = .ok (.aload_n 0, 1) := by decide +kernel
theorem dX4_days_6 : decode cX4_days 6 = .ok (.bipush (-4), 2) := by decide +kernel
theorem dX4_days_8 : decode cX4_days 8 = .ok (.invokevirtual 63, 3) := by decide +kernel
theorem dX4_days_11 : decode cX4_days 11 = .ok (.ireturn, 1) := by decide +kernel
theorem dX4_days_12 : decode cX4_days 12 = .ok (.aload_n 0, 1) := by decide +kernel
theorem dX4_days_13 : decode cX4_days 13 = .ok (.getfield 12, 3) := by decide +kernel
theorem dX4_days_16 : decode cX4_days 16 = .ok (.iload_n 1, 1) := by decide +kernel
theorem dX4_days_17 : decode cX4_days 17 = .ok (.invokevirtual 152, 3) := by decide +kernel
theorem dX4_days_20 : decode cX4_days 20 = .ok (.ifCond .ne 10, 3) := by decide +kernel
theorem dX4_days_23 : decode cX4_days 23 = .ok (.aload_n 0, 1) := by decide +kernel
theorem dX4_days_24 : decode cX4_days 24 = .ok (.bipush (-6), 2) := by decide +kernel
theorem dX4_days_26 : decode cX4_days 26 = .ok (.invokevirtual 63, 3) := by decide +kernel
theorem dX4_days_29 : decode cX4_days 29 = .ok (.ireturn, 1) := by decide +kernel
theorem dX4_days_30 : decode cX4_days 30 = .ok (.aload_n 0, 1) := by decide +kernel
theorem dX4_days_31 : decode cX4_days 31 = .ok (.getfield 12, 3) := by decide +kernel
theorem dX4_days_34 : decode cX4_days 34 = .ok (.invokevirtual 155, 3) := by decide +kernel
theorem dX4_days_37 : decode cX4_days 37 = .ok (.invokestatic 158, 3) := by decide +kernel
theorem dX4_days_40 : decode cX4_days 40 = .ok (.ireturn, 1) := by decide +kernel
theorem dX4_riderThen_0 : decode cX4_riderThen 0 = .ok (.aload_n 0, 1) := by decide +kernel
theorem dX4_riderThen_1 : decode cX4_riderThen 1 = .ok (.getfield 12, 3) := by decide +kernel
theorem dX4_riderThen_4 : decode cX4_riderThen 4 = .ok (.iload_n 1, 1) := by decide +kernel
theorem dX4_riderThen_5 : decode cX4_riderThen 5 = .ok (.invokevirtual 85, 3) := by decide +kernel
theorem dX4_riderThen_8 : decode cX4_riderThen 8 = .ok (.ifCond .ne 9, 3) := by decide +kernel
theorem dX4_riderThen_11 : decode cX4_riderThen 11 = .ok (.aload_n 0, 1) := by decide +kernel
theorem dX4_riderThen_12 : decode cX4_riderThen 12 = .ok (.iconst (-1), 1) := by decide +kernel
theorem dX4_riderThen_13 : decode cX4_riderThen 13 = .ok (.invokevirtual 63, 3) := by decide +kernel
theorem dX4_riderThen_16 : decode cX4_riderThen 16 = .ok (.ireturn, 1) := by decide +kernel
theorem dX4_riderThen_17 : decode cX4_riderThen 17 = .ok (.iload_n 2, 1) := by decide +kernel
theorem dX4_riderThen_18 : decode cX4_riderThen 18 = .ok (.iconst 0, 1) := by decide +kernel
theorem dX4_riderThen_19 : decode cX4_riderThen 19 = .ok (.bipush 60, 2) := by decide +kernel
theorem dX4_riderThen_21 : decode cX4_riderThen 21 = .ok (.invokestatic 163, 3) := by decide +kernel
theorem dX4_riderThen_24 : decode cX4_riderThen 24 = .ok (.istore 4, 2) := by decide +kernel
theorem dX4_riderThen_26 : decode cX4_riderThen 26 = .ok (.iload 4, 2) := by decide +kernel
theorem dX4_riderThen_28 : decode cX4_riderThen 28 = .ok (.ifCond .eq 10, 3) := by decide +kernel
theorem dX4_riderThen_31 : decode cX4_riderThen 31 = .ok (.aload_n 0, 1) := by decide +kernel
theorem dX4_riderThen_32 : decode cX4_riderThen 32 = .ok (.iload 4, 2) := by decide +kernel
theorem dX4_riderThen_34 : decode cX4_riderThen 34 = .ok (.invokevirtual 63, 3) := by decide +kernel
theorem dX4_riderThen_37 : decode cX4_riderThen 37 = .ok (.ireturn, 1) := by decide +kernel
theorem dX4_riderThen_38 : decode cX4_riderThen 38 = .ok (.iload_n 3, 1) := by decide +kernel
theorem dX4_riderThen_39 : decode cX4_riderThen 39 = .ok (.iconst 2, 1) := by decide +kernel
theorem dX4_riderThen_40 : decode cX4_riderThen 40 = .ok (.invokestatic 149, 3) := by decide +kernel
theorem dX4_riderThen_43 : decode cX4_riderThen 43 = .ok (.ifCond .ne 10, 3) := by decide +kernel
theorem dX4_riderThen_46 : decode cX4_riderThen 46 = .ok (.aload_n 0, 1) := by decide +kernel
theorem dX4_riderThen_47 : decode cX4_riderThen 47 = .ok (.bipush (-2), 2) := by decide +kernel
theorem dX4_riderThen_49 : decode cX4_riderThen 49 = .ok (.invokevirtual 63, 3) := by decide +kernel
theorem dX4_riderThen_52 : decode cX4_riderThen 52 = .ok (.ireturn, 1) := by decide +kernel
theorem dX4_riderThen_53 : decode cX4_riderThen 53 = .ok (.aload_n 0, 1) := by decide +kernel
theorem dX4_riderThen_54 : decode cX4_riderThen 54 = .ok (.iload_n 1, 1) := by decide +kernel
theorem dX4_riderThen_55 : decode cX4_riderThen 55 = .ok (.invokevirtual 167, 3) := by decide +kernel
theorem dX4_riderThen_58 : decode cX4_riderThen 58 = .ok (.aload_n 0, 1) := by decide +kernel
theorem dX4_riderThen_59 : decode cX4_riderThen 59 = .ok (.getfield 32, 3) := by decide +kernel
theorem dX4_riderThen_62 : decode cX4_riderThen 62 = .ok (.aload_n 0, 1) := by decide +kernel
theorem dX4_riderThen_63 : decode cX4_riderThen 63 = .ok (.getfield 12, 3) := by decide +kernel
theorem dX4_riderThen_66 : decode cX4_riderThen 66 = .ok (.getfield 122, 3) := by decide +kernel
theorem dX4_riderThen_69 : decode cX4_riderThen 69 = .ok (.iload_n 2, 1) := by decide +kernel
theorem dX4_riderThen_70 : decode cX4_riderThen 70 = .ok (.invokevirtual 171, 3) := by decide +kernel
theorem dX4_riderThen_73 : decode cX4_riderThen 73 = .ok (.iload_n 3, 1) := by decide +kernel
theorem dX4_riderThen_74 : decode cX4_riderThen 74 = .ok (.ifCond .ne 13, 3) := by decide +kernel
theorem dX4_riderThen_77 : decode cX4_riderThen 77 = .ok (.aload_n 0, 1) := by decide +kernel
theorem dX4_riderThen_78 : decode cX4_riderThen 78 = .ok (.getfield 32, 3) := by decide +kernel
theorem dX4_riderThen_81 : decode cX4_riderThen 81 = .ok (.getfield 106, 3) := by decide +kernel
theorem dX4_riderThen_84 : decode cX4_riderThen 84 = .ok (.goto 10, 3) := by decide +kernel
theorem dX4_riderThen_87 : decode cX4_riderThen 87 = .ok (.aload_n 0, 1) := by decide +kernel
theorem dX4_riderThen_88 : decode cX4_riderThen 88 = .ok (.getfield 32, 3) := by decide +kernel
theorem dX4_riderThen_91 : decode cX4_riderThen 91 = .ok (.getfield 109, 3) := by decide +kernel
theorem dX4_riderThen_94 : decode cX4_riderThen 94 = .ok (.ireturn, 1) := by decide +kernel
theorem dX4_comes_0 : decode cX4_comes 0 = .ok (.aload_n 0, 1) := by decide +kernel
theorem dX4_comes_1 : decode cX4_comes 1 = .ok (.getfield 12, 3) := by decide +kernel
theorem dX4_comes_4 : decode cX4_comes 4 = .ok (.iload_n 1, 1) := by decide +kernel
theorem dX4_comes_5 : decode cX4_comes 5 = .ok (.invokevirtual 85, 3) := by decide +kernel
theorem dX4_comes_8 : decode cX4_comes 8 = .ok (.ifCond .eq 10, 3) := by decide +kernel
theorem dX4_comes_11 : decode cX4_comes 11 = .ok (.iload_n 2, 1) := by decide +kernel
theorem dX4_comes_12 : decode cX4_comes 12 = .ok (.invokestatic 119, 3) := by decide +kernel
theorem dX4_comes_15 : decode cX4_comes 15 = .ok (.ifCond .ne 9, 3) := by decide +kernel
theorem dX4_comes_18 : decode cX4_comes 18 = .ok (.aload_n 0, 1) := by decide +kernel
theorem dX4_comes_19 : decode cX4_comes 19 = .ok (.iconst (-1), 1) := by decide +kernel
theorem dX4_comes_20 : decode cX4_comes 20 = .ok (.invokevirtual 63, 3) := by decide +kernel
theorem dX4_comes_23 : decode cX4_comes 23 = .ok (.ireturn, 1) := by decide +kernel
theorem dX4_comes_24 : decode cX4_comes 24 = .ok (.aload_n 0, 1) := by decide +kernel
theorem dX4_comes_25 : decode cX4_comes 25 = .ok (.iload_n 1, 1) := by decide +kernel
theorem dX4_comes_26 : decode cX4_comes 26 = .ok (.iload_n 2, 1) := by decide +kernel
theorem dX4_comes_27 : decode cX4_comes 27 = .ok (.invokevirtual 175, 3) := by decide +kernel
theorem dX4_comes_30 : decode cX4_comes 30 = .ok (.invokestatic 178, 3) := by decide +kernel
theorem dX4_comes_33 : decode cX4_comes 33 = .ok (.ireturn, 1) := by decide +kernel
theorem dX4_first_0 : decode cX4_first 0 = .ok (.iload_n 1, 1) := by decide +kernel
theorem dX4_first_1 : decode cX4_first 1 = .ok (.invokestatic 119, 3) := by decide +kernel
theorem dX4_first_4 : decode cX4_first 4 = .ok (.ifCond .ne 9, 3) := by decide +kernel
theorem dX4_first_7 : decode cX4_first 7 = .ok (.aload_n 0, 1) := by decide +kernel
theorem dX4_first_8 : decode cX4_first 8 = .ok (.iconst (-1), 1) := by decide +kernel
theorem dX4_first_9 : decode cX4_first 9 = .ok (.invokevirtual 63, 3) := by decide +kernel
theorem dX4_first_12 : decode cX4_first 12 = .ok (.ireturn, 1) := by decide +kernel
theorem dX4_first_13 : decode cX4_first 13 = .ok (.bipush (-9), 2) := by decide +kernel
theorem dX4_first_15 : decode cX4_first 15 = .ok (.istore_n 2, 1) := by decide +kernel
theorem dX4_first_16 : decode cX4_first 16 = .ok (.bipush 61, 2) := by decide +kernel
theorem dX4_first_18 : decode cX4_first 18 = .ok (.istore_n 3, 1) := by decide +kernel
theorem dX4_first_19 : decode cX4_first 19 = .ok (.iconst 0, 1) := by decide +kernel
theorem dX4_first_20 : decode cX4_first 20 = .ok (.istore 4, 2) := by decide +kernel
theorem dX4_first_22 : decode cX4_first 22 = .ok (.iload 4, 2) := by decide +kernel
theorem dX4_first_24 : decode cX4_first 24 = .ok (.aload_n 0, 1) := by decide +kernel
theorem dX4_first_25 : decode cX4_first 25 = .ok (.getfield 12, 3) := by decide +kernel
theorem dX4_first_28 : decode cX4_first 28 = .ok (.getfield 181, 3) := by decide +kernel
theorem dX4_first_31 : decode cX4_first 31 = .ok (.if_icmp .ge 30, 3) := by decide +kernel
theorem dX4_first_34 : decode cX4_first 34 = .ok (.aload_n 0, 1) := by decide +kernel
theorem dX4_first_35 : decode cX4_first 35 = .ok (.iload 4, 2) := by decide +kernel
theorem dX4_first_37 : decode cX4_first 37 = .ok (.iload_n 1, 1) := by decide +kernel
theorem dX4_first_38 : decode cX4_first 38 = .ok (.invokevirtual 175, 3) := by decide +kernel
theorem dX4_first_41 : decode cX4_first 41 = .ok (.istore 5, 2) := by decide +kernel
theorem dX4_first_43 : decode cX4_first 43 = .ok (.iload 5, 2) := by decide +kernel
theorem dX4_first_45 : decode cX4_first 45 = .ok (.iload_n 3, 1) := by decide +kernel
theorem dX4_first_46 : decode cX4_first 46 = .ok (.if_icmp .ge 9, 3) := by decide +kernel
theorem dX4_first_49 : decode cX4_first 49 = .ok (.iload 5, 2) := by decide +kernel
theorem dX4_first_51 : decode cX4_first 51 = .ok (.istore_n 3, 1) := by decide +kernel
theorem dX4_first_52 : decode cX4_first 52 = .ok (.iload 4, 2) := by decide +kernel
theorem dX4_first_54 : decode cX4_first 54 = .ok (.istore_n 2, 1) := by decide +kernel
theorem dX4_first_55 : decode cX4_first 55 = .ok (.iinc 4 1, 3) := by decide +kernel
theorem dX4_first_58 : decode cX4_first 58 = .ok (.goto (-36), 3) := by decide +kernel
theorem dX4_first_61 : decode cX4_first 61 = .ok (.iload_n 2, 1) := by decide +kernel
theorem dX4_first_62 : decode cX4_first 62 = .ok (.ireturn, 1) := by decide +kernel
theorem dX4_rests_0 : decode cX4_rests 0 = .ok (.aload_n 0, 1) := by decide +kernel
theorem dX4_rests_1 : decode cX4_rests 1 = .ok (.getfield 12, 3) := by decide +kernel
theorem dX4_rests_4 : decode cX4_rests 4 = .ok (.iload_n 1, 1) := by decide +kernel
theorem dX4_rests_5 : decode cX4_rests 5 = .ok (.invokevirtual 85, 3) := by decide +kernel
theorem dX4_rests_8 : decode cX4_rests 8 = .ok (.ifCond .ne 9, 3) := by decide +kernel
theorem dX4_rests_11 : decode cX4_rests 11 = .ok (.aload_n 0, 1) := by decide +kernel
theorem dX4_rests_12 : decode cX4_rests 12 = .ok (.iconst (-1), 1) := by decide +kernel
theorem dX4_rests_13 : decode cX4_rests 13 = .ok (.invokevirtual 63, 3) := by decide +kernel
theorem dX4_rests_16 : decode cX4_rests 16 = .ok (.ireturn, 1) := by decide +kernel
theorem dX4_rests_17 : decode cX4_rests 17 = .ok (.aload_n 0, 1) := by decide +kernel
theorem dX4_rests_18 : decode cX4_rests 18 = .ok (.iload_n 1, 1) := by decide +kernel
theorem dX4_rests_19 : decode cX4_rests 19 = .ok (.invokevirtual 167, 3) := by decide +kernel
theorem dX4_rests_22 : decode cX4_rests 22 = .ok (.iconst 0, 1) := by decide +kernel
theorem dX4_rests_23 : decode cX4_rests 23 = .ok (.istore_n 2, 1) := by decide +kernel
theorem dX4_rests_24 : decode cX4_rests 24 = .ok (.iconst 0, 1) := by decide +kernel
theorem dX4_rests_25 : decode cX4_rests 25 = .ok (.istore_n 3, 1) := by decide +kernel
theorem dX4_rests_26 : decode cX4_rests 26 = .ok (.iload_n 3, 1) := by decide +kernel
theorem dX4_rests_27 : decode cX4_rests 27 = .ok (.bipush 65, 2) := by decide +kernel
theorem dX4_rests_29 : decode cX4_rests 29 = .ok (.if_icmp .gt 57, 3) := by decide +kernel
theorem dX4_rests_32 : decode cX4_rests 32 = .ok (.iload_n 3, 1) := by decide +kernel
theorem dX4_rests_33 : decode cX4_rests 33 = .ok (.iload_n 2, 1) := by decide +kernel
theorem dX4_rests_34 : decode cX4_rests 34 = .ok (.isub, 1) := by decide +kernel
theorem dX4_rests_35 : decode cX4_rests 35 = .ok (.iconst 5, 1) := by decide +kernel
theorem dX4_rests_36 : decode cX4_rests 36 = .ok (.if_icmp .ne 5, 3) := by decide +kernel
theorem dX4_rests_39 : decode cX4_rests 39 = .ok (.iload_n 2, 1) := by decide +kernel
theorem dX4_rests_40 : decode cX4_rests 40 = .ok (.ireturn, 1) := by decide +kernel
theorem dX4_rests_41 : decode cX4_rests 41 = .ok (.aload_n 0, 1) := by decide +kernel
theorem dX4_rests_42 : decode cX4_rests 42 = .ok (.getfield 32, 3) := by decide +kernel
theorem dX4_rests_45 : decode cX4_rests 45 = .ok (.getfield 106, 3) := by decide +kernel
theorem dX4_rests_48 : decode cX4_rests 48 = .ok (.istore 4, 2) := by decide +kernel
theorem dX4_rests_50 : decode cX4_rests 50 = .ok (.aload_n 0, 1) := by decide +kernel
theorem dX4_rests_51 : decode cX4_rests 51 = .ok (.getfield 32, 3) := by decide +kernel
theorem dX4_rests_54 : decode cX4_rests 54 = .ok (.aload_n 0, 1) := by decide +kernel
theorem dX4_rests_55 : decode cX4_rests 55 = .ok (.getfield 12, 3) := by decide +kernel
theorem dX4_rests_58 : decode cX4_rests 58 = .ok (.getfield 122, 3) := by decide +kernel
theorem dX4_rests_61 : decode cX4_rests 61 = .ok (.invokevirtual 184, 3) := by decide +kernel
theorem dX4_rests_64 : decode cX4_rests 64 = .ok (.aload_n 0, 1) := by decide +kernel
theorem dX4_rests_65 : decode cX4_rests 65 = .ok (.getfield 32, 3) := by decide +kernel
theorem dX4_rests_68 : decode cX4_rests 68 = .ok (.getfield 106, 3) := by decide +kernel
theorem dX4_rests_71 : decode cX4_rests 71 = .ok (.iload 4, 2) := by decide +kernel
theorem dX4_rests_73 : decode cX4_rests 73 = .ok (.if_icmp .eq 7, 3) := by decide +kernel
theorem dX4_rests_76 : decode cX4_rests 76 = .ok (.iload_n 3, 1) := by decide +kernel
theorem dX4_rests_77 : decode cX4_rests 77 = .ok (.iconst 1, 1) := by decide +kernel
theorem dX4_rests_78 : decode cX4_rests 78 = .ok (.iadd, 1) := by decide +kernel
theorem dX4_rests_79 : decode cX4_rests 79 = .ok (.istore_n 2, 1) := by decide +kernel
theorem dX4_rests_80 : decode cX4_rests 80 = .ok (.iinc 3 1, 3) := by decide +kernel
theorem dX4_rests_83 : decode cX4_rests 83 = .ok (.goto (-57), 3) := by decide +kernel
theorem dX4_rests_86 : decode cX4_rests 86 = .ok (.bipush (-9), 2) := by decide +kernel
theorem dX4_rests_88 : decode cX4_rests 88 = .ok (.ireturn, 1) := by decide +kernel
theorem dX4_meet_0 : decode cX4_meet 0 = .ok (.aload_n 0, 1) := by decide +kernel
theorem dX4_meet_1 : decode cX4_meet 1 = .ok (.getfield 12, 3) := by decide +kernel
theorem dX4_meet_4 : decode cX4_meet 4 = .ok (.iload_n 1, 1) := by decide +kernel
theorem dX4_meet_5 : decode cX4_meet 5 = .ok (.invokevirtual 85, 3) := by decide +kernel
theorem dX4_meet_8 : decode cX4_meet 8 = .ok (.ifCond .eq 19, 3) := by decide +kernel
theorem dX4_meet_11 : decode cX4_meet 11 = .ok (.aload_n 0, 1) := by decide +kernel
theorem dX4_meet_12 : decode cX4_meet 12 = .ok (.getfield 12, 3) := by decide +kernel
theorem dX4_meet_15 : decode cX4_meet 15 = .ok (.iload_n 2, 1) := by decide +kernel
theorem dX4_meet_16 : decode cX4_meet 16 = .ok (.invokevirtual 85, 3) := by decide +kernel
theorem dX4_meet_19 : decode cX4_meet 19 = .ok (.ifCond .eq 8, 3) := by decide +kernel
theorem dX4_meet_22 : decode cX4_meet 22 = .ok (.iload_n 1, 1) := by decide +kernel
theorem dX4_meet_23 : decode cX4_meet 23 = .ok (.iload_n 2, 1) := by decide +kernel
theorem dX4_meet_24 : decode cX4_meet 24 = .ok (.if_icmp .ne 9, 3) := by decide +kernel
theorem dX4_meet_27 : decode cX4_meet 27 = .ok (.aload_n 0, 1) := by decide +kernel
theorem dX4_meet_28 : decode cX4_meet 28 = .ok (.iconst (-1), 1) := by decide +kernel
theorem dX4_meet_29 : decode cX4_meet 29 = .ok (.invokevirtual 63, 3) := by decide +kernel
theorem dX4_meet_32 : decode cX4_meet 32 = .ok (.ireturn, 1) := by decide +kernel
theorem dX4_meet_33 : decode cX4_meet 33 = .ok (.iload_n 3, 1) := by decide +kernel
theorem dX4_meet_34 : decode cX4_meet 34 = .ok (.iconst 2, 1) := by decide +kernel
theorem dX4_meet_35 : decode cX4_meet 35 = .ok (.invokestatic 149, 3) := by decide +kernel
theorem dX4_meet_38 : decode cX4_meet 38 = .ok (.ifCond .ne 10, 3) := by decide +kernel
theorem dX4_meet_41 : decode cX4_meet 41 = .ok (.aload_n 0, 1) := by decide +kernel
theorem dX4_meet_42 : decode cX4_meet 42 = .ok (.bipush (-2), 2) := by decide +kernel
theorem dX4_meet_44 : decode cX4_meet 44 = .ok (.invokevirtual 63, 3) := by decide +kernel
theorem dX4_meet_47 : decode cX4_meet 47 = .ok (.ireturn, 1) := by decide +kernel
theorem dX4_meet_48 : decode cX4_meet 48 = .ok (.aload_n 0, 1) := by decide +kernel
theorem dX4_meet_49 : decode cX4_meet 49 = .ok (.iload_n 1, 1) := by decide +kernel
theorem dX4_meet_50 : decode cX4_meet 50 = .ok (.invokevirtual 167, 3) := by decide +kernel
theorem dX4_meet_53 : decode cX4_meet 53 = .ok (.aload_n 0, 1) := by decide +kernel
theorem dX4_meet_54 : decode cX4_meet 54 = .ok (.getfield 36, 3) := by decide +kernel
theorem dX4_meet_57 : decode cX4_meet 57 = .ok (.aload_n 0, 1) := by decide +kernel
theorem dX4_meet_58 : decode cX4_meet 58 = .ok (.getfield 12, 3) := by decide +kernel
theorem dX4_meet_61 : decode cX4_meet 61 = .ok (.getfield 89, 3) := by decide +kernel
theorem dX4_meet_64 : decode cX4_meet 64 = .ok (.iload_n 2, 1) := by decide +kernel
theorem dX4_meet_65 : decode cX4_meet 65 = .ok (.aaload, 1) := by decide +kernel
theorem dX4_meet_66 : decode cX4_meet 66 = .ok (.invokevirtual 188, 3) := by decide +kernel
theorem dX4_meet_69 : decode cX4_meet 69 = .ok (.iconst 0, 1) := by decide +kernel
theorem dX4_meet_70 : decode cX4_meet 70 = .ok (.istore 4, 2) := by decide +kernel
theorem dX4_meet_72 : decode cX4_meet 72 = .ok (.iload 4, 2) := by decide +kernel
theorem dX4_meet_74 : decode cX4_meet 74 = .ok (.bipush 60, 2) := by decide +kernel
theorem dX4_meet_76 : decode cX4_meet 76 = .ok (.if_icmp .gt 71, 3) := by decide +kernel
theorem dX4_meet_79 : decode cX4_meet 79 = .ok (.aload_n 0, 1) := by decide +kernel
theorem dX4_meet_80 : decode cX4_meet 80 = .ok (.getfield 32, 3) := by decide +kernel
theorem dX4_meet_83 : decode cX4_meet 83 = .ok (.getfield 106, 3) := by decide +kernel
theorem dX4_meet_86 : decode cX4_meet 86 = .ok (.aload_n 0, 1) := by decide +kernel
theorem dX4_meet_87 : decode cX4_meet 87 = .ok (.getfield 36, 3) := by decide +kernel
theorem dX4_meet_90 : decode cX4_meet 90 = .ok (.getfield 106, 3) := by decide +kernel
theorem dX4_meet_93 : decode cX4_meet 93 = .ok (.if_icmp .ne 20, 3) := by decide +kernel
theorem dX4_meet_96 : decode cX4_meet 96 = .ok (.iload_n 3, 1) := by decide +kernel
theorem dX4_meet_97 : decode cX4_meet 97 = .ok (.ifCond .ne 8, 3) := by decide +kernel
theorem dX4_meet_100 : decode cX4_meet 100 = .ok (.iload 4, 2) := by decide +kernel
theorem dX4_meet_102 : decode cX4_meet 102 = .ok (.goto 10, 3) := by decide +kernel
theorem dX4_meet_105 : decode cX4_meet 105 = .ok (.aload_n 0, 1) := by decide +kernel
theorem dX4_meet_106 : decode cX4_meet 106 = .ok (.getfield 32, 3) := by decide +kernel
theorem dX4_meet_109 : decode cX4_meet 109 = .ok (.getfield 106, 3) := by decide +kernel
theorem dX4_meet_112 : decode cX4_meet 112 = .ok (.ireturn, 1) := by decide +kernel
theorem dX4_meet_113 : decode cX4_meet 113 = .ok (.aload_n 0, 1) := by decide +kernel
theorem dX4_meet_114 : decode cX4_meet 114 = .ok (.getfield 32, 3) := by decide +kernel
theorem dX4_meet_117 : decode cX4_meet 117 = .ok (.aload_n 0, 1) := by decide +kernel
theorem dX4_meet_118 : decode cX4_meet 118 = .ok (.getfield 12, 3) := by decide +kernel
theorem dX4_meet_121 : decode cX4_meet 121 = .ok (.getfield 122, 3) := by decide +kernel
theorem dX4_meet_124 : decode cX4_meet 124 = .ok (.invokevirtual 184, 3) := by decide +kernel
theorem dX4_meet_127 : decode cX4_meet 127 = .ok (.aload_n 0, 1) := by decide +kernel
theorem dX4_meet_128 : decode cX4_meet 128 = .ok (.getfield 36, 3) := by decide +kernel
theorem dX4_meet_131 : decode cX4_meet 131 = .ok (.aload_n 0, 1) := by decide +kernel
theorem dX4_meet_132 : decode cX4_meet 132 = .ok (.getfield 12, 3) := by decide +kernel
theorem dX4_meet_135 : decode cX4_meet 135 = .ok (.getfield 122, 3) := by decide +kernel
theorem dX4_meet_138 : decode cX4_meet 138 = .ok (.invokevirtual 184, 3) := by decide +kernel
theorem dX4_meet_141 : decode cX4_meet 141 = .ok (.iinc 4 1, 3) := by decide +kernel
theorem dX4_meet_144 : decode cX4_meet 144 = .ok (.goto (-72), 3) := by decide +kernel
theorem dX4_meet_147 : decode cX4_meet 147 = .ok (.bipush (-9), 2) := by decide +kernel
theorem dX4_meet_149 : decode cX4_meet 149 = .ok (.ireturn, 1) := by decide +kernel
theorem dX4_arrived_0 : decode cX4_arrived 0 = .ok (.ldc2_w 191, 3) := by decide +kernel
theorem dX4_arrived_3 : decode cX4_arrived 3 = .ok (.lstore_n 1, 1) := by decide +kernel
theorem dX4_arrived_4 : decode cX4_arrived 4 = .ok (.iconst 0, 1) := by decide +kernel
theorem dX4_arrived_5 : decode cX4_arrived 5 = .ok (.istore_n 3, 1) := by decide +kernel
theorem dX4_arrived_6 : decode cX4_arrived 6 = .ok (.iload_n 3, 1) := by decide +kernel
theorem dX4_arrived_7 : decode cX4_arrived 7 = .ok (.aload_n 0, 1) := by decide +kernel
theorem dX4_arrived_8 : decode cX4_arrived 8 = .ok (.getfield 12, 3) := by decide +kernel
theorem dX4_arrived_11 : decode cX4_arrived 11 = .ok (.getfield 181, 3) := by decide +kernel
theorem dX4_arrived_14 : decode cX4_arrived 14 = .ok (.if_icmp .ge 21, 3) := by decide +kernel
theorem dX4_arrived_17 : decode cX4_arrived 17 = .ok (.aload_n 0, 1) := by decide +kernel
theorem dX4_arrived_18 : decode cX4_arrived 18 = .ok (.iload_n 3, 1) := by decide +kernel
theorem dX4_arrived_19 : decode cX4_arrived 19 = .ok (.invokevirtual 167, 3) := by decide +kernel
theorem dX4_arrived_22 : decode cX4_arrived 22 = .ok (.lload_n 1, 1) := by decide +kernel
theorem dX4_arrived_23 : decode cX4_arrived 23 = .ok (.aload_n 0, 1) := by decide +kernel
theorem dX4_arrived_24 : decode cX4_arrived 24 = .ok (.invokevirtual 193, 3) := by decide +kernel
theorem dX4_arrived_27 : decode cX4_arrived 27 = .ok (.land, 1) := by decide +kernel
theorem dX4_arrived_28 : decode cX4_arrived 28 = .ok (.lstore_n 1, 1) := by decide +kernel
theorem dX4_arrived_29 : decode cX4_arrived 29 = .ok (.iinc 3 1, 3) := by decide +kernel
theorem dX4_arrived_32 : decode cX4_arrived 32 = .ok (.goto (-26), 3) := by decide +kernel
theorem dX4_arrived_35 : decode cX4_arrived 35 = .ok (.iconst 0, 1) := by decide +kernel
theorem dX4_arrived_36 : decode cX4_arrived 36 = .ok (.istore_n 3, 1) := by decide +kernel
theorem dX4_arrived_37 : decode cX4_arrived 37 = .ok (.iload_n 3, 1) := by decide +kernel
theorem dX4_arrived_38 : decode cX4_arrived 38 = .ok (.bipush 60, 2) := by decide +kernel
theorem dX4_arrived_40 : decode cX4_arrived 40 = .ok (.if_icmp .gt 21, 3) := by decide +kernel
theorem dX4_arrived_43 : decode cX4_arrived 43 = .ok (.lload_n 1, 1) := by decide +kernel
theorem dX4_arrived_44 : decode cX4_arrived 44 = .ok (.iload_n 3, 1) := by decide +kernel
theorem dX4_arrived_45 : decode cX4_arrived 45 = .ok (.lshr, 1) := by decide +kernel
theorem dX4_arrived_46 : decode cX4_arrived 46 = .ok (.lconst 1, 1) := by decide +kernel
theorem dX4_arrived_47 : decode cX4_arrived 47 = .ok (.land, 1) := by decide +kernel
theorem dX4_arrived_48 : decode cX4_arrived 48 = .ok (.lconst 1, 1) := by decide +kernel
theorem dX4_arrived_49 : decode cX4_arrived 49 = .ok (.lcmp, 1) := by decide +kernel
theorem dX4_arrived_50 : decode cX4_arrived 50 = .ok (.ifCond .ne 5, 3) := by decide +kernel
theorem dX4_arrived_53 : decode cX4_arrived 53 = .ok (.iload_n 3, 1) := by decide +kernel
theorem dX4_arrived_54 : decode cX4_arrived 54 = .ok (.ireturn, 1) := by decide +kernel
theorem dX4_arrived_55 : decode cX4_arrived 55 = .ok (.iinc 3 1, 3) := by decide +kernel
theorem dX4_arrived_58 : decode cX4_arrived 58 = .ok (.goto (-21), 3) := by decide +kernel
theorem dX4_arrived_61 : decode cX4_arrived 61 = .ok (.bipush (-9), 2) := by decide +kernel
theorem dX4_arrived_63 : decode cX4_arrived 63 = .ok (.ireturn, 1) := by decide +kernel
theorem dX4_shoe_0 : decode cX4_shoe 0 = .ok (.aload_n 0, 1) := by decide +kernel
theorem dX4_shoe_1 : decode cX4_shoe 1 = .ok (.getfield 12, 3) := by decide +kernel
theorem dX4_shoe_4 : decode cX4_shoe 4 = .ok (.iload_n 1, 1) := by decide +kernel
theorem dX4_shoe_5 : decode cX4_shoe 5 = .ok (.invokevirtual 85, 3) := by decide +kernel
theorem dX4_shoe_8 : decode cX4_shoe 8 = .ok (.ifCond .eq 10, 3) := by decide +kernel
theorem dX4_shoe_11 : decode cX4_shoe 11 = .ok (.iload_n 2, 1) := by decide +kernel
theorem dX4_shoe_12 : decode cX4_shoe 12 = .ok (.invokestatic 119, 3) := by decide +kernel
theorem dX4_shoe_15 : decode cX4_shoe 15 = .ok (.ifCond .ne 9, 3) := by decide +kernel
theorem dX4_shoe_18 : decode cX4_shoe 18 = .ok (.aload_n 0, 1) := by decide +kernel
theorem dX4_shoe_19 : decode cX4_shoe 19 = .ok (.iconst (-1), 1) := by decide +kernel
theorem dX4_shoe_20 : decode cX4_shoe 20 = .ok (.invokevirtual 63, 3) := by decide +kernel
theorem dX4_shoe_23 : decode cX4_shoe 23 = .ok (.ireturn, 1) := by decide +kernel
theorem dX4_shoe_24 : decode cX4_shoe 24 = .ok (.iload_n 3, 1) := by decide +kernel
theorem dX4_shoe_25 : decode cX4_shoe 25 = .ok (.iconst 2, 1) := by decide +kernel
theorem dX4_shoe_26 : decode cX4_shoe 26 = .ok (.invokestatic 149, 3) := by decide +kernel
theorem dX4_shoe_29 : decode cX4_shoe 29 = .ok (.ifCond .ne 10, 3) := by decide +kernel
theorem dX4_shoe_32 : decode cX4_shoe 32 = .ok (.aload_n 0, 1) := by decide +kernel
theorem dX4_shoe_33 : decode cX4_shoe 33 = .ok (.bipush (-2), 2) := by decide +kernel
theorem dX4_shoe_35 : decode cX4_shoe 35 = .ok (.invokevirtual 63, 3) := by decide +kernel
theorem dX4_shoe_38 : decode cX4_shoe 38 = .ok (.ireturn, 1) := by decide +kernel
theorem dX4_shoe_39 : decode cX4_shoe 39 = .ok (.bipush (-9), 2) := by decide +kernel
theorem dX4_shoe_41 : decode cX4_shoe 41 = .ok (.istore 4, 2) := by decide +kernel
theorem dX4_shoe_43 : decode cX4_shoe 43 = .ok (.bipush 61, 2) := by decide +kernel
theorem dX4_shoe_45 : decode cX4_shoe 45 = .ok (.istore 5, 2) := by decide +kernel
theorem dX4_shoe_47 : decode cX4_shoe 47 = .ok (.iconst 0, 1) := by decide +kernel
theorem dX4_shoe_48 : decode cX4_shoe 48 = .ok (.istore 6, 2) := by decide +kernel
theorem dX4_shoe_50 : decode cX4_shoe 50 = .ok (.iload 6, 2) := by decide +kernel
theorem dX4_shoe_52 : decode cX4_shoe 52 = .ok (.iconst 4, 1) := by decide +kernel
theorem dX4_shoe_53 : decode cX4_shoe 53 = .ok (.if_icmp .gt 55, 3) := by decide +kernel
theorem dX4_shoe_56 : decode cX4_shoe 56 = .ok (.aload_n 0, 1) := by decide +kernel
theorem dX4_shoe_57 : decode cX4_shoe 57 = .ok (.iload_n 1, 1) := by decide +kernel
theorem dX4_shoe_58 : decode cX4_shoe 58 = .ok (.invokevirtual 167, 3) := by decide +kernel
theorem dX4_shoe_61 : decode cX4_shoe 61 = .ok (.aload_n 0, 1) := by decide +kernel
theorem dX4_shoe_62 : decode cX4_shoe 62 = .ok (.getfield 32, 3) := by decide +kernel
theorem dX4_shoe_65 : decode cX4_shoe 65 = .ok (.iload 6, 2) := by decide +kernel
theorem dX4_shoe_67 : decode cX4_shoe 67 = .ok (.putfield 109, 3) := by decide +kernel
theorem dX4_shoe_70 : decode cX4_shoe 70 = .ok (.aload_n 0, 1) := by decide +kernel
theorem dX4_shoe_71 : decode cX4_shoe 71 = .ok (.getfield 32, 3) := by decide +kernel
theorem dX4_shoe_74 : decode cX4_shoe 74 = .ok (.aload_n 0, 1) := by decide +kernel
theorem dX4_shoe_75 : decode cX4_shoe 75 = .ok (.getfield 12, 3) := by decide +kernel
theorem dX4_shoe_78 : decode cX4_shoe 78 = .ok (.getfield 122, 3) := by decide +kernel
theorem dX4_shoe_81 : decode cX4_shoe 81 = .ok (.iload_n 2, 1) := by decide +kernel
theorem dX4_shoe_82 : decode cX4_shoe 82 = .ok (.invokevirtual 197, 3) := by decide +kernel
theorem dX4_shoe_85 : decode cX4_shoe 85 = .ok (.istore 7, 2) := by decide +kernel
theorem dX4_shoe_87 : decode cX4_shoe 87 = .ok (.iload 7, 2) := by decide +kernel
theorem dX4_shoe_89 : decode cX4_shoe 89 = .ok (.iload 5, 2) := by decide +kernel
theorem dX4_shoe_91 : decode cX4_shoe 91 = .ok (.if_icmp .ge 11, 3) := by decide +kernel
theorem dX4_shoe_94 : decode cX4_shoe 94 = .ok (.iload 7, 2) := by decide +kernel
theorem dX4_shoe_96 : decode cX4_shoe 96 = .ok (.istore 5, 2) := by decide +kernel
theorem dX4_shoe_98 : decode cX4_shoe 98 = .ok (.iload 6, 2) := by decide +kernel
theorem dX4_shoe_100 : decode cX4_shoe 100 = .ok (.istore 4, 2) := by decide +kernel
theorem dX4_shoe_102 : decode cX4_shoe 102 = .ok (.iinc 6 1, 3) := by decide +kernel
theorem dX4_shoe_105 : decode cX4_shoe 105 = .ok (.goto (-55), 3) := by decide +kernel
theorem dX4_shoe_108 : decode cX4_shoe 108 = .ok (.iload_n 3, 1) := by decide +kernel
theorem dX4_shoe_109 : decode cX4_shoe 109 = .ok (.ifCond .ne 8, 3) := by decide +kernel
theorem dX4_shoe_112 : decode cX4_shoe 112 = .ok (.iload 4, 2) := by decide +kernel
theorem dX4_shoe_114 : decode cX4_shoe 114 = .ok (.goto 8, 3) := by decide +kernel
theorem dX4_shoe_117 : decode cX4_shoe 117 = .ok (.iload 5, 2) := by decide +kernel
theorem dX4_shoe_119 : decode cX4_shoe 119 = .ok (.invokestatic 178, 3) := by decide +kernel
theorem dX4_shoe_122 : decode cX4_shoe 122 = .ok (.ireturn, 1) := by decide +kernel
theorem dX4_wish_0 : decode cX4_wish 0 = .ok (.aload_n 0, 1) := by decide +kernel
theorem dX4_wish_1 : decode cX4_wish 1 = .ok (.getfield 12, 3) := by decide +kernel
theorem dX4_wish_4 : decode cX4_wish 4 = .ok (.iload_n 1, 1) := by decide +kernel
theorem dX4_wish_5 : decode cX4_wish 5 = .ok (.invokevirtual 85, 3) := by decide +kernel
theorem dX4_wish_8 : decode cX4_wish 8 = .ok (.ifCond .eq 10, 3) := by decide +kernel
theorem dX4_wish_11 : decode cX4_wish 11 = .ok (.iload_n 2, 1) := by decide +kernel
theorem dX4_wish_12 : decode cX4_wish 12 = .ok (.invokestatic 119, 3) := by decide +kernel
theorem dX4_wish_15 : decode cX4_wish 15 = .ok (.ifCond .ne 9, 3) := by decide +kernel
theorem dX4_wish_18 : decode cX4_wish 18 = .ok (.aload_n 0, 1) := by decide +kernel
theorem dX4_wish_19 : decode cX4_wish 19 = .ok (.iconst (-1), 1) := by decide +kernel
theorem dX4_wish_20 : decode cX4_wish 20 = .ok (.invokevirtual 63, 3) := by decide +kernel
theorem dX4_wish_23 : decode cX4_wish 23 = .ok (.ireturn, 1) := by decide +kernel
theorem dX4_wish_24 : decode cX4_wish 24 = .ok (.bipush (-9), 2) := by decide +kernel
theorem dX4_wish_26 : decode cX4_wish 26 = .ok (.istore_n 3, 1) := by decide +kernel
theorem dX4_wish_27 : decode cX4_wish 27 = .ok (.aload_n 0, 1) := by decide +kernel
theorem dX4_wish_28 : decode cX4_wish 28 = .ok (.iload_n 1, 1) := by decide +kernel
theorem dX4_wish_29 : decode cX4_wish 29 = .ok (.iload_n 2, 1) := by decide +kernel
theorem dX4_wish_30 : decode cX4_wish 30 = .ok (.invokevirtual 175, 3) := by decide +kernel
theorem dX4_wish_33 : decode cX4_wish 33 = .ok (.istore 4, 2) := by decide +kernel
theorem dX4_wish_35 : decode cX4_wish 35 = .ok (.iconst 0, 1) := by decide +kernel
theorem dX4_wish_36 : decode cX4_wish 36 = .ok (.istore 5, 2) := by decide +kernel
theorem dX4_wish_38 : decode cX4_wish 38 = .ok (.iload 5, 2) := by decide +kernel
theorem dX4_wish_40 : decode cX4_wish 40 = .ok (.bipush 8, 2) := by decide +kernel
theorem dX4_wish_42 : decode cX4_wish 42 = .ok (.if_icmp .ge 54, 3) := by decide +kernel
theorem dX4_wish_45 : decode cX4_wish 45 = .ok (.aload_n 0, 1) := by decide +kernel
theorem dX4_wish_46 : decode cX4_wish 46 = .ok (.iload_n 1, 1) := by decide +kernel
theorem dX4_wish_47 : decode cX4_wish 47 = .ok (.invokevirtual 167, 3) := by decide +kernel
theorem dX4_wish_50 : decode cX4_wish 50 = .ok (.aload_n 0, 1) := by decide +kernel
theorem dX4_wish_51 : decode cX4_wish 51 = .ok (.getfield 32, 3) := by decide +kernel
theorem dX4_wish_54 : decode cX4_wish 54 = .ok (.iload 5, 2) := by decide +kernel
theorem dX4_wish_56 : decode cX4_wish 56 = .ok (.putfield 100, 3) := by decide +kernel
theorem dX4_wish_59 : decode cX4_wish 59 = .ok (.aload_n 0, 1) := by decide +kernel
theorem dX4_wish_60 : decode cX4_wish 60 = .ok (.getfield 32, 3) := by decide +kernel
theorem dX4_wish_63 : decode cX4_wish 63 = .ok (.aload_n 0, 1) := by decide +kernel
theorem dX4_wish_64 : decode cX4_wish 64 = .ok (.getfield 12, 3) := by decide +kernel
theorem dX4_wish_67 : decode cX4_wish 67 = .ok (.getfield 122, 3) := by decide +kernel
theorem dX4_wish_70 : decode cX4_wish 70 = .ok (.iload_n 2, 1) := by decide +kernel
theorem dX4_wish_71 : decode cX4_wish 71 = .ok (.invokevirtual 197, 3) := by decide +kernel
theorem dX4_wish_74 : decode cX4_wish 74 = .ok (.istore 6, 2) := by decide +kernel
theorem dX4_wish_76 : decode cX4_wish 76 = .ok (.iload 6, 2) := by decide +kernel
theorem dX4_wish_78 : decode cX4_wish 78 = .ok (.iload 4, 2) := by decide +kernel
theorem dX4_wish_80 : decode cX4_wish 80 = .ok (.if_icmp .ge 10, 3) := by decide +kernel
theorem dX4_wish_83 : decode cX4_wish 83 = .ok (.iload 6, 2) := by decide +kernel
theorem dX4_wish_85 : decode cX4_wish 85 = .ok (.istore 4, 2) := by decide +kernel
theorem dX4_wish_87 : decode cX4_wish 87 = .ok (.iload 5, 2) := by decide +kernel
theorem dX4_wish_89 : decode cX4_wish 89 = .ok (.istore_n 3, 1) := by decide +kernel
theorem dX4_wish_90 : decode cX4_wish 90 = .ok (.iinc 5 1, 3) := by decide +kernel
theorem dX4_wish_93 : decode cX4_wish 93 = .ok (.goto (-55), 3) := by decide +kernel
theorem dX4_wish_96 : decode cX4_wish 96 = .ok (.iload_n 3, 1) := by decide +kernel
theorem dX4_wish_97 : decode cX4_wish 97 = .ok (.ireturn, 1) := by decide +kernel
theorem dX4_road_0 : decode cX4_road 0 = .ok (.aload_n 0, 1) := by decide +kernel
theorem dX4_road_1 : decode cX4_road 1 = .ok (.getfield 12, 3) := by decide +kernel
theorem dX4_road_4 : decode cX4_road 4 = .ok (.iload_n 1, 1) := by decide +kernel
theorem dX4_road_5 : decode cX4_road 5 = .ok (.invokevirtual 85, 3) := by decide +kernel
theorem dX4_road_8 : decode cX4_road 8 = .ok (.ifCond .eq 10, 3) := by decide +kernel
theorem dX4_road_11 : decode cX4_road 11 = .ok (.iload_n 2, 1) := by decide +kernel
theorem dX4_road_12 : decode cX4_road 12 = .ok (.invokestatic 119, 3) := by decide +kernel
theorem dX4_road_15 : decode cX4_road 15 = .ok (.ifCond .ne 9, 3) := by decide +kernel
theorem dX4_road_18 : decode cX4_road 18 = .ok (.aload_n 0, 1) := by decide +kernel
theorem dX4_road_19 : decode cX4_road 19 = .ok (.iconst (-1), 1) := by decide +kernel
theorem dX4_road_20 : decode cX4_road 20 = .ok (.invokevirtual 63, 3) := by decide +kernel
theorem dX4_road_23 : decode cX4_road 23 = .ok (.ireturn, 1) := by decide +kernel
theorem dX4_road_24 : decode cX4_road 24 = .ok (.bipush (-9), 2) := by decide +kernel
theorem dX4_road_26 : decode cX4_road 26 = .ok (.istore_n 3, 1) := by decide +kernel
theorem dX4_road_27 : decode cX4_road 27 = .ok (.aload_n 0, 1) := by decide +kernel
theorem dX4_road_28 : decode cX4_road 28 = .ok (.iload_n 1, 1) := by decide +kernel
theorem dX4_road_29 : decode cX4_road 29 = .ok (.iload_n 2, 1) := by decide +kernel
theorem dX4_road_30 : decode cX4_road 30 = .ok (.invokevirtual 175, 3) := by decide +kernel
theorem dX4_road_33 : decode cX4_road 33 = .ok (.istore 4, 2) := by decide +kernel
theorem dX4_road_35 : decode cX4_road 35 = .ok (.iconst 0, 1) := by decide +kernel
theorem dX4_road_36 : decode cX4_road 36 = .ok (.istore 5, 2) := by decide +kernel
theorem dX4_road_38 : decode cX4_road 38 = .ok (.iload 5, 2) := by decide +kernel
theorem dX4_road_40 : decode cX4_road 40 = .ok (.bipush 8, 2) := by decide +kernel
theorem dX4_road_42 : decode cX4_road 42 = .ok (.if_icmp .ge 82, 3) := by decide +kernel
theorem dX4_road_45 : decode cX4_road 45 = .ok (.iload 5, 2) := by decide +kernel
theorem dX4_road_47 : decode cX4_road 47 = .ok (.iconst 1, 1) := by decide +kernel
theorem dX4_road_48 : decode cX4_road 48 = .ok (.iadd, 1) := by decide +kernel
theorem dX4_road_49 : decode cX4_road 49 = .ok (.istore 6, 2) := by decide +kernel
theorem dX4_road_51 : decode cX4_road 51 = .ok (.iload 6, 2) := by decide +kernel
theorem dX4_road_53 : decode cX4_road 53 = .ok (.bipush 8, 2) := by decide +kernel
theorem dX4_road_55 : decode cX4_road 55 = .ok (.if_icmp .ge 63, 3) := by decide +kernel
theorem dX4_road_58 : decode cX4_road 58 = .ok (.aload_n 0, 1) := by decide +kernel
theorem dX4_road_59 : decode cX4_road 59 = .ok (.getfield 12, 3) := by decide +kernel
theorem dX4_road_62 : decode cX4_road 62 = .ok (.getfield 122, 3) := by decide +kernel
theorem dX4_road_65 : decode cX4_road 65 = .ok (.iload 5, 2) := by decide +kernel
theorem dX4_road_67 : decode cX4_road 67 = .ok (.iload 6, 2) := by decide +kernel
theorem dX4_road_69 : decode cX4_road 69 = .ok (.invokevirtual 137, 3) := by decide +kernel
theorem dX4_road_72 : decode cX4_road 72 = .ok (.ifCond .eq 8, 3) := by decide +kernel
theorem dX4_road_75 : decode cX4_road 75 = .ok (.bipush 61, 2) := by decide +kernel
theorem dX4_road_77 : decode cX4_road 77 = .ok (.goto 13, 3) := by decide +kernel
theorem dX4_road_80 : decode cX4_road 80 = .ok (.aload_n 0, 1) := by decide +kernel
theorem dX4_road_81 : decode cX4_road 81 = .ok (.iload_n 1, 1) := by decide +kernel
theorem dX4_road_82 : decode cX4_road 82 = .ok (.iload_n 2, 1) := by decide +kernel
theorem dX4_road_83 : decode cX4_road 83 = .ok (.iload 5, 2) := by decide +kernel
theorem dX4_road_85 : decode cX4_road 85 = .ok (.iload 6, 2) := by decide +kernel
theorem dX4_road_87 : decode cX4_road 87 = .ok (.invokevirtual 200, 3) := by decide +kernel
theorem dX4_road_90 : decode cX4_road 90 = .ok (.istore 7, 2) := by decide +kernel
theorem dX4_road_92 : decode cX4_road 92 = .ok (.iload 7, 2) := by decide +kernel
theorem dX4_road_94 : decode cX4_road 94 = .ok (.iload 4, 2) := by decide +kernel
theorem dX4_road_96 : decode cX4_road 96 = .ok (.if_icmp .ge 16, 3) := by decide +kernel
theorem dX4_road_99 : decode cX4_road 99 = .ok (.iload 7, 2) := by decide +kernel
theorem dX4_road_101 : decode cX4_road 101 = .ok (.istore 4, 2) := by decide +kernel
theorem dX4_road_103 : decode cX4_road 103 = .ok (.bipush 10, 2) := by decide +kernel
theorem dX4_road_105 : decode cX4_road 105 = .ok (.iload 5, 2) := by decide +kernel
theorem dX4_road_107 : decode cX4_road 107 = .ok (.imul, 1) := by decide +kernel
theorem dX4_road_108 : decode cX4_road 108 = .ok (.iload 6, 2) := by decide +kernel
theorem dX4_road_110 : decode cX4_road 110 = .ok (.iadd, 1) := by decide +kernel
theorem dX4_road_111 : decode cX4_road 111 = .ok (.istore_n 3, 1) := by decide +kernel
theorem dX4_road_112 : decode cX4_road 112 = .ok (.iinc 6 1, 3) := by decide +kernel
theorem dX4_road_115 : decode cX4_road 115 = .ok (.goto (-64), 3) := by decide +kernel
theorem dX4_road_118 : decode cX4_road 118 = .ok (.iinc 5 1, 3) := by decide +kernel
theorem dX4_road_121 : decode cX4_road 121 = .ok (.goto (-83), 3) := by decide +kernel
theorem dX4_road_124 : decode cX4_road 124 = .ok (.iload_n 3, 1) := by decide +kernel
theorem dX4_road_125 : decode cX4_road 125 = .ok (.ireturn, 1) := by decide +kernel
theorem dX4_cut_0 : decode cX4_cut 0 = .ok (.aload_n 0, 1) := by decide +kernel
theorem dX4_cut_1 : decode cX4_cut 1 = .ok (.getfield 12, 3) := by decide +kernel
theorem dX4_cut_4 : decode cX4_cut 4 = .ok (.iload_n 1, 1) := by decide +kernel
theorem dX4_cut_5 : decode cX4_cut 5 = .ok (.invokevirtual 85, 3) := by decide +kernel
theorem dX4_cut_8 : decode cX4_cut 8 = .ok (.ifCond .eq 10, 3) := by decide +kernel
theorem dX4_cut_11 : decode cX4_cut 11 = .ok (.iload_n 2, 1) := by decide +kernel
theorem dX4_cut_12 : decode cX4_cut 12 = .ok (.invokestatic 119, 3) := by decide +kernel
theorem dX4_cut_15 : decode cX4_cut 15 = .ok (.ifCond .ne 9, 3) := by decide +kernel
theorem dX4_cut_18 : decode cX4_cut 18 = .ok (.aload_n 0, 1) := by decide +kernel
theorem dX4_cut_19 : decode cX4_cut 19 = .ok (.iconst (-1), 1) := by decide +kernel
theorem dX4_cut_20 : decode cX4_cut 20 = .ok (.invokevirtual 63, 3) := by decide +kernel
theorem dX4_cut_23 : decode cX4_cut 23 = .ok (.ireturn, 1) := by decide +kernel
theorem dX4_cut_24 : decode cX4_cut 24 = .ok (.aload_n 0, 1) := by decide +kernel
theorem dX4_cut_25 : decode cX4_cut 25 = .ok (.iload_n 1, 1) := by decide +kernel
theorem dX4_cut_26 : decode cX4_cut 26 = .ok (.iload_n 2, 1) := by decide +kernel
theorem dX4_cut_27 : decode cX4_cut 27 = .ok (.invokevirtual 175, 3) := by decide +kernel
theorem dX4_cut_30 : decode cX4_cut 30 = .ok (.bipush 61, 2) := by decide +kernel
theorem dX4_cut_32 : decode cX4_cut 32 = .ok (.if_icmp .ne 6, 3) := by decide +kernel
theorem dX4_cut_35 : decode cX4_cut 35 = .ok (.bipush (-9), 2) := by decide +kernel
theorem dX4_cut_37 : decode cX4_cut 37 = .ok (.ireturn, 1) := by decide +kernel
theorem dX4_cut_38 : decode cX4_cut 38 = .ok (.iconst 0, 1) := by decide +kernel
theorem dX4_cut_39 : decode cX4_cut 39 = .ok (.istore_n 3, 1) := by decide +kernel
theorem dX4_cut_40 : decode cX4_cut 40 = .ok (.iload_n 3, 1) := by decide +kernel
theorem dX4_cut_41 : decode cX4_cut 41 = .ok (.bipush 8, 2) := by decide +kernel
theorem dX4_cut_43 : decode cX4_cut 43 = .ok (.if_icmp .ge 65, 3) := by decide +kernel
theorem dX4_cut_46 : decode cX4_cut 46 = .ok (.iload_n 3, 1) := by decide +kernel
theorem dX4_cut_47 : decode cX4_cut 47 = .ok (.iconst 1, 1) := by decide +kernel
theorem dX4_cut_48 : decode cX4_cut 48 = .ok (.iadd, 1) := by decide +kernel
theorem dX4_cut_49 : decode cX4_cut 49 = .ok (.istore 4, 2) := by decide +kernel
theorem dX4_cut_51 : decode cX4_cut 51 = .ok (.iload 4, 2) := by decide +kernel
theorem dX4_cut_53 : decode cX4_cut 53 = .ok (.bipush 8, 2) := by decide +kernel
theorem dX4_cut_55 : decode cX4_cut 55 = .ok (.if_icmp .ge 47, 3) := by decide +kernel
theorem dX4_cut_58 : decode cX4_cut 58 = .ok (.aload_n 0, 1) := by decide +kernel
theorem dX4_cut_59 : decode cX4_cut 59 = .ok (.getfield 12, 3) := by decide +kernel
theorem dX4_cut_62 : decode cX4_cut 62 = .ok (.getfield 122, 3) := by decide +kernel
theorem dX4_cut_65 : decode cX4_cut 65 = .ok (.iload_n 3, 1) := by decide +kernel
theorem dX4_cut_66 : decode cX4_cut 66 = .ok (.iload 4, 2) := by decide +kernel
theorem dX4_cut_68 : decode cX4_cut 68 = .ok (.invokevirtual 137, 3) := by decide +kernel
theorem dX4_cut_71 : decode cX4_cut 71 = .ok (.ifCond .eq 25, 3) := by decide +kernel
theorem dX4_cut_74 : decode cX4_cut 74 = .ok (.aload_n 0, 1) := by decide +kernel
theorem dX4_cut_75 : decode cX4_cut 75 = .ok (.iload_n 1, 1) := by decide +kernel
theorem dX4_cut_76 : decode cX4_cut 76 = .ok (.iload_n 2, 1) := by decide +kernel
theorem dX4_cut_77 : decode cX4_cut 77 = .ok (.iload_n 3, 1) := by decide +kernel
theorem dX4_cut_78 : decode cX4_cut 78 = .ok (.iload 4, 2) := by decide +kernel
theorem dX4_cut_80 : decode cX4_cut 80 = .ok (.invokevirtual 200, 3) := by decide +kernel
theorem dX4_cut_83 : decode cX4_cut 83 = .ok (.bipush 61, 2) := by decide +kernel
theorem dX4_cut_85 : decode cX4_cut 85 = .ok (.if_icmp .ne 11, 3) := by decide +kernel
theorem dX4_cut_88 : decode cX4_cut 88 = .ok (.bipush 10, 2) := by decide +kernel
theorem dX4_cut_90 : decode cX4_cut 90 = .ok (.iload_n 3, 1) := by decide +kernel
theorem dX4_cut_91 : decode cX4_cut 91 = .ok (.imul, 1) := by decide +kernel
theorem dX4_cut_92 : decode cX4_cut 92 = .ok (.iload 4, 2) := by decide +kernel
theorem dX4_cut_94 : decode cX4_cut 94 = .ok (.iadd, 1) := by decide +kernel
theorem dX4_cut_95 : decode cX4_cut 95 = .ok (.ireturn, 1) := by decide +kernel
theorem dX4_cut_96 : decode cX4_cut 96 = .ok (.iinc 4 1, 3) := by decide +kernel
theorem dX4_cut_99 : decode cX4_cut 99 = .ok (.goto (-48), 3) := by decide +kernel
theorem dX4_cut_102 : decode cX4_cut 102 = .ok (.iinc 3 1, 3) := by decide +kernel
theorem dX4_cut_105 : decode cX4_cut 105 = .ok (.goto (-65), 3) := by decide +kernel
theorem dX4_cut_108 : decode cX4_cut 108 = .ok (.bipush (-9), 2) := by decide +kernel
theorem dX4_cut_110 : decode cX4_cut 110 = .ok (.ireturn, 1) := by decide +kernel
theorem dX4_inn_0 : decode cX4_inn 0 = .ok (.iload_n 1, 1) := by decide +kernel
theorem dX4_inn_1 : decode cX4_inn 1 = .ok (.iconst 0, 1) := by decide +kernel
theorem dX4_inn_2 : decode cX4_inn 2 = .ok (.bipush 30, 2) := by decide +kernel
theorem dX4_inn_4 : decode cX4_inn 4 = .ok (.invokestatic 163, 3) := by decide +kernel
theorem dX4_inn_7 : decode cX4_inn 7 = .ok (.istore_n 3, 1) := by decide +kernel
theorem dX4_inn_8 : decode cX4_inn 8 = .ok (.iload_n 3, 1) := by decide +kernel
theorem dX4_inn_9 : decode cX4_inn 9 = .ok (.ifCond .eq 9, 3) := by decide +kernel
theorem dX4_inn_12 : decode cX4_inn 12 = .ok (.aload_n 0, 1) := by decide +kernel
theorem dX4_inn_13 : decode cX4_inn 13 = .ok (.iload_n 3, 1) := by decide +kernel
theorem dX4_inn_14 : decode cX4_inn 14 = .ok (.invokevirtual 63, 3) := by decide +kernel
theorem dX4_inn_17 : decode cX4_inn 17 = .ok (.ireturn, 1) := by decide +kernel
theorem dX4_inn_18 : decode cX4_inn 18 = .ok (.iload_n 2, 1) := by decide +kernel
theorem dX4_inn_19 : decode cX4_inn 19 = .ok (.iconst 2, 1) := by decide +kernel
theorem dX4_inn_20 : decode cX4_inn 20 = .ok (.invokestatic 149, 3) := by decide +kernel
theorem dX4_inn_23 : decode cX4_inn 23 = .ok (.ifCond .ne 10, 3) := by decide +kernel
theorem dX4_inn_26 : decode cX4_inn 26 = .ok (.aload_n 0, 1) := by decide +kernel
theorem dX4_inn_27 : decode cX4_inn 27 = .ok (.bipush (-2), 2) := by decide +kernel
theorem dX4_inn_29 : decode cX4_inn 29 = .ok (.invokevirtual 63, 3) := by decide +kernel
theorem dX4_inn_32 : decode cX4_inn 32 = .ok (.ireturn, 1) := by decide +kernel
theorem dX4_inn_33 : decode cX4_inn 33 = .ok (.aload_n 0, 1) := by decide +kernel
theorem dX4_inn_34 : decode cX4_inn 34 = .ok (.iload_n 1, 1) := by decide +kernel
theorem dX4_inn_35 : decode cX4_inn 35 = .ok (.invokevirtual 204, 3) := by decide +kernel
theorem dX4_inn_38 : decode cX4_inn 38 = .ok (.iconst 0, 1) := by decide +kernel
theorem dX4_inn_39 : decode cX4_inn 39 = .ok (.istore 4, 2) := by decide +kernel
theorem dX4_inn_41 : decode cX4_inn 41 = .ok (.iconst 0, 1) := by decide +kernel
theorem dX4_inn_42 : decode cX4_inn 42 = .ok (.istore 5, 2) := by decide +kernel
theorem dX4_inn_44 : decode cX4_inn 44 = .ok (.iconst 0, 1) := by decide +kernel
theorem dX4_inn_45 : decode cX4_inn 45 = .ok (.istore 6, 2) := by decide +kernel
theorem dX4_inn_47 : decode cX4_inn 47 = .ok (.iload 6, 2) := by decide +kernel
theorem dX4_inn_49 : decode cX4_inn 49 = .ok (.bipush 8, 2) := by decide +kernel
theorem dX4_inn_51 : decode cX4_inn 51 = .ok (.if_icmp .ge 36, 3) := by decide +kernel
theorem dX4_inn_54 : decode cX4_inn 54 = .ok (.aload_n 0, 1) := by decide +kernel
theorem dX4_inn_55 : decode cX4_inn 55 = .ok (.getfield 53, 3) := by decide +kernel
theorem dX4_inn_58 : decode cX4_inn 58 = .ok (.iload 6, 2) := by decide +kernel
theorem dX4_inn_60 : decode cX4_inn 60 = .ok (.iaload, 1) := by decide +kernel
theorem dX4_inn_61 : decode cX4_inn 61 = .ok (.invokestatic 158, 3) := by decide +kernel
theorem dX4_inn_64 : decode cX4_inn 64 = .ok (.istore 7, 2) := by decide +kernel
theorem dX4_inn_66 : decode cX4_inn 66 = .ok (.iload 7, 2) := by decide +kernel
theorem dX4_inn_68 : decode cX4_inn 68 = .ok (.iload 5, 2) := by decide +kernel
theorem dX4_inn_70 : decode cX4_inn 70 = .ok (.if_icmp .le 11, 3) := by decide +kernel
theorem dX4_inn_73 : decode cX4_inn 73 = .ok (.iload 7, 2) := by decide +kernel
theorem dX4_inn_75 : decode cX4_inn 75 = .ok (.istore 5, 2) := by decide +kernel
theorem dX4_inn_77 : decode cX4_inn 77 = .ok (.iload 6, 2) := by decide +kernel
theorem dX4_inn_79 : decode cX4_inn 79 = .ok (.istore 4, 2) := by decide +kernel
theorem dX4_inn_81 : decode cX4_inn 81 = .ok (.iinc 6 1, 3) := by decide +kernel
theorem dX4_inn_84 : decode cX4_inn 84 = .ok (.goto (-37), 3) := by decide +kernel
theorem dX4_inn_87 : decode cX4_inn 87 = .ok (.iload_n 2, 1) := by decide +kernel
theorem dX4_inn_88 : decode cX4_inn 88 = .ok (.ifCond .ne 8, 3) := by decide +kernel
theorem dX4_inn_91 : decode cX4_inn 91 = .ok (.iload 4, 2) := by decide +kernel
theorem dX4_inn_93 : decode cX4_inn 93 = .ok (.goto 5, 3) := by decide +kernel
theorem dX4_inn_96 : decode cX4_inn 96 = .ok (.iload 5, 2) := by decide +kernel
theorem dX4_inn_98 : decode cX4_inn 98 = .ok (.ireturn, 1) := by decide +kernel
theorem dX4_busiest_0 : decode cX4_busiest 0 = .ok (.iconst 0, 1) := by decide +kernel
theorem dX4_busiest_1 : decode cX4_busiest 1 = .ok (.istore_n 1, 1) := by decide +kernel
theorem dX4_busiest_2 : decode cX4_busiest 2 = .ok (.iconst 1, 1) := by decide +kernel
theorem dX4_busiest_3 : decode cX4_busiest 3 = .ok (.istore_n 2, 1) := by decide +kernel
theorem dX4_busiest_4 : decode cX4_busiest 4 = .ok (.iload_n 2, 1) := by decide +kernel
theorem dX4_busiest_5 : decode cX4_busiest 5 = .ok (.bipush 8, 2) := by decide +kernel
theorem dX4_busiest_7 : decode cX4_busiest 7 = .ok (.if_icmp .ge 44, 3) := by decide +kernel
theorem dX4_busiest_10 : decode cX4_busiest 10 = .ok (.aload_n 0, 1) := by decide +kernel
theorem dX4_busiest_11 : decode cX4_busiest 11 = .ok (.getfield 12, 3) := by decide +kernel
theorem dX4_busiest_14 : decode cX4_busiest 14 = .ok (.getfield 122, 3) := by decide +kernel
theorem dX4_busiest_17 : decode cX4_busiest 17 = .ok (.getfield 207, 3) := by decide +kernel
theorem dX4_busiest_20 : decode cX4_busiest 20 = .ok (.iload_n 2, 1) := by decide +kernel
theorem dX4_busiest_21 : decode cX4_busiest 21 = .ok (.iaload, 1) := by decide +kernel
theorem dX4_busiest_22 : decode cX4_busiest 22 = .ok (.invokestatic 158, 3) := by decide +kernel
theorem dX4_busiest_25 : decode cX4_busiest 25 = .ok (.aload_n 0, 1) := by decide +kernel
theorem dX4_busiest_26 : decode cX4_busiest 26 = .ok (.getfield 12, 3) := by decide +kernel
theorem dX4_busiest_29 : decode cX4_busiest 29 = .ok (.getfield 122, 3) := by decide +kernel
theorem dX4_busiest_32 : decode cX4_busiest 32 = .ok (.getfield 207, 3) := by decide +kernel
theorem dX4_busiest_35 : decode cX4_busiest 35 = .ok (.iload_n 1, 1) := by decide +kernel
theorem dX4_busiest_36 : decode cX4_busiest 36 = .ok (.iaload, 1) := by decide +kernel
theorem dX4_busiest_37 : decode cX4_busiest 37 = .ok (.invokestatic 158, 3) := by decide +kernel
theorem dX4_busiest_40 : decode cX4_busiest 40 = .ok (.if_icmp .le 5, 3) := by decide +kernel
theorem dX4_busiest_43 : decode cX4_busiest 43 = .ok (.iload_n 2, 1) := by decide +kernel
theorem dX4_busiest_44 : decode cX4_busiest 44 = .ok (.istore_n 1, 1) := by decide +kernel
theorem dX4_busiest_45 : decode cX4_busiest 45 = .ok (.iinc 2 1, 3) := by decide +kernel
theorem dX4_busiest_48 : decode cX4_busiest 48 = .ok (.goto (-44), 3) := by decide +kernel
theorem dX4_busiest_51 : decode cX4_busiest 51 = .ok (.iload_n 1, 1) := by decide +kernel
theorem dX4_busiest_52 : decode cX4_busiest 52 = .ok (.ireturn, 1) := by decide +kernel
theorem dX4_near_0 : decode cX4_near 0 = .ok (.iload_n 1, 1) := by decide +kernel
theorem dX4_near_1 : decode cX4_near 1 = .ok (.invokestatic 119, 3) := by decide +kernel
theorem dX4_near_4 : decode cX4_near 4 = .ok (.ifCond .ne 9, 3) := by decide +kernel
theorem dX4_near_7 : decode cX4_near 7 = .ok (.aload_n 0, 1) := by decide +kernel
theorem dX4_near_8 : decode cX4_near 8 = .ok (.iconst (-1), 1) := by decide +kernel
theorem dX4_near_9 : decode cX4_near 9 = .ok (.invokevirtual 63, 3) := by decide +kernel
theorem dX4_near_12 : decode cX4_near 12 = .ok (.ireturn, 1) := by decide +kernel
theorem dX4_near_13 : decode cX4_near 13 = .ok (.aload_n 0, 1) := by decide +kernel
theorem dX4_near_14 : decode cX4_near 14 = .ok (.getfield 12, 3) := by decide +kernel
theorem dX4_near_17 : decode cX4_near 17 = .ok (.getfield 122, 3) := by decide +kernel
theorem dX4_near_20 : decode cX4_near 20 = .ok (.getfield 207, 3) := by decide +kernel
theorem dX4_near_23 : decode cX4_near 23 = .ok (.iload_n 1, 1) := by decide +kernel
theorem dX4_near_24 : decode cX4_near 24 = .ok (.iaload, 1) := by decide +kernel
theorem dX4_near_25 : decode cX4_near 25 = .ok (.ireturn, 1) := by decide +kernel
theorem dX4_apart_0 : decode cX4_apart 0 = .ok (.iload_n 1, 1) := by decide +kernel
theorem dX4_apart_1 : decode cX4_apart 1 = .ok (.tableswitch 69 0 3 #[31, 42, 53, 61], 31) := by decide +kernel
theorem dX4_apart_32 : decode cX4_apart 32 = .ok (.aload_n 0, 1) := by decide +kernel
theorem dX4_apart_33 : decode cX4_apart 33 = .ok (.getfield 12, 3) := by decide +kernel
theorem dX4_apart_36 : decode cX4_apart 36 = .ok (.getfield 122, 3) := by decide +kernel
theorem dX4_apart_39 : decode cX4_apart 39 = .ok (.invokevirtual 210, 3) := by decide +kernel
theorem dX4_apart_42 : decode cX4_apart 42 = .ok (.ireturn, 1) := by decide +kernel
theorem dX4_apart_43 : decode cX4_apart 43 = .ok (.aload_n 0, 1) := by decide +kernel
theorem dX4_apart_44 : decode cX4_apart 44 = .ok (.getfield 12, 3) := by decide +kernel
theorem dX4_apart_47 : decode cX4_apart 47 = .ok (.getfield 122, 3) := by decide +kernel
theorem dX4_apart_50 : decode cX4_apart 50 = .ok (.invokevirtual 213, 3) := by decide +kernel
theorem dX4_apart_53 : decode cX4_apart 53 = .ok (.ireturn, 1) := by decide +kernel
theorem dX4_apart_54 : decode cX4_apart 54 = .ok (.aload_n 0, 1) := by decide +kernel
theorem dX4_apart_55 : decode cX4_apart 55 = .ok (.getfield 12, 3) := by decide +kernel
theorem dX4_apart_58 : decode cX4_apart 58 = .ok (.invokevirtual 216, 3) := by decide +kernel
theorem dX4_apart_61 : decode cX4_apart 61 = .ok (.ireturn, 1) := by decide +kernel
theorem dX4_apart_62 : decode cX4_apart 62 = .ok (.aload_n 0, 1) := by decide +kernel
theorem dX4_apart_63 : decode cX4_apart 63 = .ok (.getfield 12, 3) := by decide +kernel
theorem dX4_apart_66 : decode cX4_apart 66 = .ok (.invokevirtual 219, 3) := by decide +kernel
theorem dX4_apart_69 : decode cX4_apart 69 = .ok (.ireturn, 1) := by decide +kernel
theorem dX4_apart_70 : decode cX4_apart 70 = .ok (.aload_n 0, 1) := by decide +kernel
theorem dX4_apart_71 : decode cX4_apart 71 = .ok (.bipush (-2), 2) := by decide +kernel
theorem dX4_apart_73 : decode cX4_apart 73 = .ok (.invokevirtual 63, 3) := by decide +kernel
theorem dX4_apart_76 : decode cX4_apart 76 = .ok (.ireturn, 1) := by decide +kernel
theorem dX4_tired_0 : decode cX4_tired 0 = .ok (.bipush (-9), 2) := by decide +kernel
theorem dX4_tired_2 : decode cX4_tired 2 = .ok (.istore_n 1, 1) := by decide +kernel
theorem dX4_tired_3 : decode cX4_tired 3 = .ok (.iconst (-1), 1) := by decide +kernel
theorem dX4_tired_4 : decode cX4_tired 4 = .ok (.istore_n 2, 1) := by decide +kernel
theorem dX4_tired_5 : decode cX4_tired 5 = .ok (.iconst 0, 1) := by decide +kernel
theorem dX4_tired_6 : decode cX4_tired 6 = .ok (.istore_n 3, 1) := by decide +kernel
theorem dX4_tired_7 : decode cX4_tired 7 = .ok (.iload_n 3, 1) := by decide +kernel
theorem dX4_tired_8 : decode cX4_tired 8 = .ok (.aload_n 0, 1) := by decide +kernel
theorem dX4_tired_9 : decode cX4_tired 9 = .ok (.getfield 12, 3) := by decide +kernel
theorem dX4_tired_12 : decode cX4_tired 12 = .ok (.getfield 181, 3) := by decide +kernel
theorem dX4_tired_15 : decode cX4_tired 15 = .ok (.if_icmp .ge 40, 3) := by decide +kernel
theorem dX4_tired_18 : decode cX4_tired 18 = .ok (.aload_n 0, 1) := by decide +kernel
theorem dX4_tired_19 : decode cX4_tired 19 = .ok (.getfield 12, 3) := by decide +kernel
theorem dX4_tired_22 : decode cX4_tired 22 = .ok (.getfield 89, 3) := by decide +kernel
theorem dX4_tired_25 : decode cX4_tired 25 = .ok (.iload_n 3, 1) := by decide +kernel
theorem dX4_tired_26 : decode cX4_tired 26 = .ok (.aaload, 1) := by decide +kernel
theorem dX4_tired_27 : decode cX4_tired 27 = .ok (.getfield 112, 3) := by decide +kernel
theorem dX4_tired_30 : decode cX4_tired 30 = .ok (.iload_n 2, 1) := by decide +kernel
theorem dX4_tired_31 : decode cX4_tired 31 = .ok (.if_icmp .le 18, 3) := by decide +kernel
theorem dX4_tired_34 : decode cX4_tired 34 = .ok (.aload_n 0, 1) := by decide +kernel
theorem dX4_tired_35 : decode cX4_tired 35 = .ok (.getfield 12, 3) := by decide +kernel
theorem dX4_tired_38 : decode cX4_tired 38 = .ok (.getfield 89, 3) := by decide +kernel
theorem dX4_tired_41 : decode cX4_tired 41 = .ok (.iload_n 3, 1) := by decide +kernel
theorem dX4_tired_42 : decode cX4_tired 42 = .ok (.aaload, 1) := by decide +kernel
theorem dX4_tired_43 : decode cX4_tired 43 = .ok (.getfield 112, 3) := by decide +kernel
theorem dX4_tired_46 : decode cX4_tired 46 = .ok (.istore_n 2, 1) := by decide +kernel
theorem dX4_tired_47 : decode cX4_tired 47 = .ok (.iload_n 3, 1) := by decide +kernel
theorem dX4_tired_48 : decode cX4_tired 48 = .ok (.istore_n 1, 1) := by decide +kernel
theorem dX4_tired_49 : decode cX4_tired 49 = .ok (.iinc 3 1, 3) := by decide +kernel
theorem dX4_tired_52 : decode cX4_tired 52 = .ok (.goto (-45), 3) := by decide +kernel
theorem dX4_tired_55 : decode cX4_tired 55 = .ok (.iload_n 1, 1) := by decide +kernel
theorem dX4_tired_56 : decode cX4_tired 56 = .ok (.ireturn, 1) := by decide +kernel
theorem dX4_truly_0 : decode cX4_truly 0 = .ok (.aload_n 0, 1) := by decide +kernel
theorem dX4_truly_1 : decode cX4_truly 1 = .ok (.getfield 12, 3) := by decide +kernel
theorem dX4_truly_4 : decode cX4_truly 4 = .ok (.iload_n 1, 1) := by decide +kernel
theorem dX4_truly_5 : decode cX4_truly 5 = .ok (.invokevirtual 85, 3) := by decide +kernel
theorem dX4_truly_8 : decode cX4_truly 8 = .ok (.ifCond .ne 9, 3) := by decide +kernel
theorem dX4_truly_11 : decode cX4_truly 11 = .ok (.aload_n 0, 1) := by decide +kernel
theorem dX4_truly_12 : decode cX4_truly 12 = .ok (.iconst (-1), 1) := by decide +kernel
theorem dX4_truly_13 : decode cX4_truly 13 = .ok (.invokevirtual 63, 3) := by decide +kernel
theorem dX4_truly_16 : decode cX4_truly 16 = .ok (.ireturn, 1) := by decide +kernel
theorem dX4_truly_17 : decode cX4_truly 17 = .ok (.aload_n 0, 1) := by decide +kernel
theorem dX4_truly_18 : decode cX4_truly 18 = .ok (.iload_n 1, 1) := by decide +kernel
theorem dX4_truly_19 : decode cX4_truly 19 = .ok (.invokevirtual 167, 3) := by decide +kernel
theorem dX4_truly_22 : decode cX4_truly 22 = .ok (.iconst 0, 1) := by decide +kernel
theorem dX4_truly_23 : decode cX4_truly 23 = .ok (.istore_n 2, 1) := by decide +kernel
theorem dX4_truly_24 : decode cX4_truly 24 = .ok (.iload_n 2, 1) := by decide +kernel
theorem dX4_truly_25 : decode cX4_truly 25 = .ok (.bipush 99, 2) := by decide +kernel
theorem dX4_truly_27 : decode cX4_truly 27 = .ok (.if_icmp .gt 28, 3) := by decide +kernel
theorem dX4_truly_30 : decode cX4_truly 30 = .ok (.aload_n 0, 1) := by decide +kernel
theorem dX4_truly_31 : decode cX4_truly 31 = .ok (.getfield 32, 3) := by decide +kernel
theorem dX4_truly_34 : decode cX4_truly 34 = .ok (.getfield 109, 3) := by decide +kernel
theorem dX4_truly_37 : decode cX4_truly 37 = .ok (.ifCond .ne 5, 3) := by decide +kernel
theorem dX4_truly_40 : decode cX4_truly 40 = .ok (.iload_n 2, 1) := by decide +kernel
theorem dX4_truly_41 : decode cX4_truly 41 = .ok (.ireturn, 1) := by decide +kernel
theorem dX4_truly_42 : decode cX4_truly 42 = .ok (.aload_n 0, 1) := by decide +kernel
theorem dX4_truly_43 : decode cX4_truly 43 = .ok (.getfield 32, 3) := by decide +kernel
theorem dX4_truly_46 : decode cX4_truly 46 = .ok (.invokevirtual 222, 3) := by decide +kernel
theorem dX4_truly_49 : decode cX4_truly 49 = .ok (.iinc 2 1, 3) := by decide +kernel
theorem dX4_truly_52 : decode cX4_truly 52 = .ok (.goto (-28), 3) := by decide +kernel
theorem dX4_truly_55 : decode cX4_truly 55 = .ok (.bipush (-9), 2) := by decide +kernel
theorem dX4_truly_57 : decode cX4_truly 57 = .ok (.ireturn, 1) := by decide +kernel
theorem dX4_total_0 : decode cX4_total 0 = .ok (.iload_n 1, 1) := by decide +kernel
theorem dX4_total_1 : decode cX4_total 1 = .ok (.iconst 0, 1) := by decide +kernel
theorem dX4_total_2 : decode cX4_total 2 = .ok (.bipush 60, 2) := by decide +kernel
theorem dX4_total_4 : decode cX4_total 4 = .ok (.invokestatic 163, 3) := by decide +kernel
theorem dX4_total_7 : decode cX4_total 7 = .ok (.istore_n 2, 1) := by decide +kernel
theorem dX4_total_8 : decode cX4_total 8 = .ok (.iload_n 2, 1) := by decide +kernel
theorem dX4_total_9 : decode cX4_total 9 = .ok (.ifCond .eq 9, 3) := by decide +kernel
theorem dX4_total_12 : decode cX4_total 12 = .ok (.aload_n 0, 1) := by decide +kernel
theorem dX4_total_13 : decode cX4_total 13 = .ok (.iload_n 2, 1) := by decide +kernel
theorem dX4_total_14 : decode cX4_total 14 = .ok (.invokevirtual 63, 3) := by decide +kernel
theorem dX4_total_17 : decode cX4_total 17 = .ok (.ireturn, 1) := by decide +kernel
theorem dX4_total_18 : decode cX4_total 18 = .ok (.aload_n 0, 1) := by decide +kernel
theorem dX4_total_19 : decode cX4_total 19 = .ok (.bipush (-9), 2) := by decide +kernel
theorem dX4_total_21 : decode cX4_total 21 = .ok (.iload_n 1, 1) := by decide +kernel
theorem dX4_total_22 : decode cX4_total 22 = .ok (.invokevirtual 225, 3) := by decide +kernel
theorem dX4_total_25 : decode cX4_total 25 = .ok (.ireturn, 1) := by decide +kernel
theorem dX4_bare_0 : decode cX4_bare 0 = .ok (.iload_n 1, 1) := by decide +kernel
theorem dX4_bare_1 : decode cX4_bare 1 = .ok (.iconst 0, 1) := by decide +kernel
theorem dX4_bare_2 : decode cX4_bare 2 = .ok (.bipush 30, 2) := by decide +kernel
theorem dX4_bare_4 : decode cX4_bare 4 = .ok (.invokestatic 163, 3) := by decide +kernel
theorem dX4_bare_7 : decode cX4_bare 7 = .ok (.istore_n 2, 1) := by decide +kernel
theorem dX4_bare_8 : decode cX4_bare 8 = .ok (.iload_n 2, 1) := by decide +kernel
theorem dX4_bare_9 : decode cX4_bare 9 = .ok (.ifCond .eq 9, 3) := by decide +kernel
theorem dX4_bare_12 : decode cX4_bare 12 = .ok (.aload_n 0, 1) := by decide +kernel
theorem dX4_bare_13 : decode cX4_bare 13 = .ok (.iload_n 2, 1) := by decide +kernel
theorem dX4_bare_14 : decode cX4_bare 14 = .ok (.invokevirtual 63, 3) := by decide +kernel
theorem dX4_bare_17 : decode cX4_bare 17 = .ok (.ireturn, 1) := by decide +kernel
theorem dX4_bare_18 : decode cX4_bare 18 = .ok (.bipush (-9), 2) := by decide +kernel
theorem dX4_bare_20 : decode cX4_bare 20 = .ok (.istore_n 3, 1) := by decide +kernel
theorem dX4_bare_21 : decode cX4_bare 21 = .ok (.aload_n 0, 1) := by decide +kernel
theorem dX4_bare_22 : decode cX4_bare 22 = .ok (.bipush (-9), 2) := by decide +kernel
theorem dX4_bare_24 : decode cX4_bare 24 = .ok (.iload_n 1, 1) := by decide +kernel
theorem dX4_bare_25 : decode cX4_bare 25 = .ok (.invokevirtual 225, 3) := by decide +kernel
theorem dX4_bare_28 : decode cX4_bare 28 = .ok (.istore 4, 2) := by decide +kernel
theorem dX4_bare_30 : decode cX4_bare 30 = .ok (.iconst 0, 1) := by decide +kernel
theorem dX4_bare_31 : decode cX4_bare 31 = .ok (.istore 5, 2) := by decide +kernel
theorem dX4_bare_33 : decode cX4_bare 33 = .ok (.iload 5, 2) := by decide +kernel
theorem dX4_bare_35 : decode cX4_bare 35 = .ok (.aload_n 0, 1) := by decide +kernel
theorem dX4_bare_36 : decode cX4_bare 36 = .ok (.getfield 12, 3) := by decide +kernel
theorem dX4_bare_39 : decode cX4_bare 39 = .ok (.getfield 181, 3) := by decide +kernel
theorem dX4_bare_42 : decode cX4_bare 42 = .ok (.if_icmp .ge 32, 3) := by decide +kernel
theorem dX4_bare_45 : decode cX4_bare 45 = .ok (.aload_n 0, 1) := by decide +kernel
theorem dX4_bare_46 : decode cX4_bare 46 = .ok (.iload 5, 2) := by decide +kernel
theorem dX4_bare_48 : decode cX4_bare 48 = .ok (.iload_n 1, 1) := by decide +kernel
theorem dX4_bare_49 : decode cX4_bare 49 = .ok (.invokevirtual 225, 3) := by decide +kernel
theorem dX4_bare_52 : decode cX4_bare 52 = .ok (.istore 6, 2) := by decide +kernel
theorem dX4_bare_54 : decode cX4_bare 54 = .ok (.iload 6, 2) := by decide +kernel
theorem dX4_bare_56 : decode cX4_bare 56 = .ok (.iload 4, 2) := by decide +kernel
theorem dX4_bare_58 : decode cX4_bare 58 = .ok (.if_icmp .ge 10, 3) := by decide +kernel
theorem dX4_bare_61 : decode cX4_bare 61 = .ok (.iload 6, 2) := by decide +kernel
theorem dX4_bare_63 : decode cX4_bare 63 = .ok (.istore 4, 2) := by decide +kernel
theorem dX4_bare_65 : decode cX4_bare 65 = .ok (.iload 5, 2) := by decide +kernel
theorem dX4_bare_67 : decode cX4_bare 67 = .ok (.istore_n 3, 1) := by decide +kernel
theorem dX4_bare_68 : decode cX4_bare 68 = .ok (.iinc 5 1, 3) := by decide +kernel
theorem dX4_bare_71 : decode cX4_bare 71 = .ok (.goto (-38), 3) := by decide +kernel
theorem dX4_bare_74 : decode cX4_bare 74 = .ok (.iload_n 3, 1) := by decide +kernel
theorem dX4_bare_75 : decode cX4_bare 75 = .ok (.ireturn, 1) := by decide +kernel
theorem dX4_two_0 : decode cX4_two 0 = .ok (.aload_n 0, 1) := by decide +kernel
theorem dX4_two_1 : decode cX4_two 1 = .ok (.getfield 12, 3) := by decide +kernel
theorem dX4_two_4 : decode cX4_two 4 = .ok (.iload_n 1, 1) := by decide +kernel
theorem dX4_two_5 : decode cX4_two 5 = .ok (.invokevirtual 85, 3) := by decide +kernel
theorem dX4_two_8 : decode cX4_two 8 = .ok (.ifCond .eq 19, 3) := by decide +kernel
theorem dX4_two_11 : decode cX4_two 11 = .ok (.aload_n 0, 1) := by decide +kernel
theorem dX4_two_12 : decode cX4_two 12 = .ok (.getfield 12, 3) := by decide +kernel
theorem dX4_two_15 : decode cX4_two 15 = .ok (.iload_n 2, 1) := by decide +kernel
theorem dX4_two_16 : decode cX4_two 16 = .ok (.invokevirtual 85, 3) := by decide +kernel
theorem dX4_two_19 : decode cX4_two 19 = .ok (.ifCond .eq 8, 3) := by decide +kernel
theorem dX4_two_22 : decode cX4_two 22 = .ok (.iload_n 1, 1) := by decide +kernel
theorem dX4_two_23 : decode cX4_two 23 = .ok (.iload_n 2, 1) := by decide +kernel
theorem dX4_two_24 : decode cX4_two 24 = .ok (.if_icmp .ne 9, 3) := by decide +kernel
theorem dX4_two_27 : decode cX4_two 27 = .ok (.aload_n 0, 1) := by decide +kernel
theorem dX4_two_28 : decode cX4_two 28 = .ok (.iconst (-1), 1) := by decide +kernel
theorem dX4_two_29 : decode cX4_two 29 = .ok (.invokevirtual 63, 3) := by decide +kernel
theorem dX4_two_32 : decode cX4_two 32 = .ok (.ireturn, 1) := by decide +kernel
theorem dX4_two_33 : decode cX4_two 33 = .ok (.iload_n 3, 1) := by decide +kernel
theorem dX4_two_34 : decode cX4_two 34 = .ok (.iconst 0, 1) := by decide +kernel
theorem dX4_two_35 : decode cX4_two 35 = .ok (.bipush 30, 2) := by decide +kernel
theorem dX4_two_37 : decode cX4_two 37 = .ok (.invokestatic 163, 3) := by decide +kernel
theorem dX4_two_40 : decode cX4_two 40 = .ok (.istore 4, 2) := by decide +kernel
theorem dX4_two_42 : decode cX4_two 42 = .ok (.iload 4, 2) := by decide +kernel
theorem dX4_two_44 : decode cX4_two 44 = .ok (.ifCond .eq 10, 3) := by decide +kernel
theorem dX4_two_47 : decode cX4_two 47 = .ok (.aload_n 0, 1) := by decide +kernel
theorem dX4_two_48 : decode cX4_two 48 = .ok (.iload 4, 2) := by decide +kernel
theorem dX4_two_50 : decode cX4_two 50 = .ok (.invokevirtual 63, 3) := by decide +kernel
theorem dX4_two_53 : decode cX4_two 53 = .ok (.ireturn, 1) := by decide +kernel
theorem dX4_two_54 : decode cX4_two 54 = .ok (.iconst 0, 1) := by decide +kernel
theorem dX4_two_55 : decode cX4_two 55 = .ok (.istore 5, 2) := by decide +kernel
theorem dX4_two_57 : decode cX4_two 57 = .ok (.iload 5, 2) := by decide +kernel
theorem dX4_two_59 : decode cX4_two 59 = .ok (.iconst 1, 1) := by decide +kernel
theorem dX4_two_60 : decode cX4_two 60 = .ok (.if_icmp .gt 99, 3) := by decide +kernel
theorem dX4_two_63 : decode cX4_two 63 = .ok (.iconst 0, 1) := by decide +kernel
theorem dX4_two_64 : decode cX4_two 64 = .ok (.istore 6, 2) := by decide +kernel
theorem dX4_two_66 : decode cX4_two 66 = .ok (.iload 6, 2) := by decide +kernel
theorem dX4_two_68 : decode cX4_two 68 = .ok (.iconst 1, 1) := by decide +kernel
theorem dX4_two_69 : decode cX4_two 69 = .ok (.if_icmp .gt 84, 3) := by decide +kernel
theorem dX4_two_72 : decode cX4_two 72 = .ok (.aload_n 0, 1) := by decide +kernel
theorem dX4_two_73 : decode cX4_two 73 = .ok (.iload_n 1, 1) := by decide +kernel
theorem dX4_two_74 : decode cX4_two 74 = .ok (.iload 5, 2) := by decide +kernel
theorem dX4_two_76 : decode cX4_two 76 = .ok (.iload_n 3, 1) := by decide +kernel
theorem dX4_two_77 : decode cX4_two 77 = .ok (.invokevirtual 228, 3) := by decide +kernel
theorem dX4_two_80 : decode cX4_two 80 = .ok (.aload_n 0, 1) := by decide +kernel
theorem dX4_two_81 : decode cX4_two 81 = .ok (.iload_n 1, 1) := by decide +kernel
theorem dX4_two_82 : decode cX4_two 82 = .ok (.iconst 1, 1) := by decide +kernel
theorem dX4_two_83 : decode cX4_two 83 = .ok (.iload 5, 2) := by decide +kernel
theorem dX4_two_85 : decode cX4_two 85 = .ok (.isub, 1) := by decide +kernel
theorem dX4_two_86 : decode cX4_two 86 = .ok (.iload_n 3, 1) := by decide +kernel
theorem dX4_two_87 : decode cX4_two 87 = .ok (.invokevirtual 228, 3) := by decide +kernel
theorem dX4_two_90 : decode cX4_two 90 = .ok (.if_icmp .gt 7, 3) := by decide +kernel
theorem dX4_two_93 : decode cX4_two 93 = .ok (.iconst 1, 1) := by decide +kernel
theorem dX4_two_94 : decode cX4_two 94 = .ok (.goto 4, 3) := by decide +kernel
theorem dX4_two_97 : decode cX4_two 97 = .ok (.iconst 0, 1) := by decide +kernel
theorem dX4_two_98 : decode cX4_two 98 = .ok (.istore 7, 2) := by decide +kernel
theorem dX4_two_100 : decode cX4_two 100 = .ok (.aload_n 0, 1) := by decide +kernel
theorem dX4_two_101 : decode cX4_two 101 = .ok (.iload_n 2, 1) := by decide +kernel
theorem dX4_two_102 : decode cX4_two 102 = .ok (.iload 6, 2) := by decide +kernel
theorem dX4_two_104 : decode cX4_two 104 = .ok (.iload_n 3, 1) := by decide +kernel
theorem dX4_two_105 : decode cX4_two 105 = .ok (.invokevirtual 228, 3) := by decide +kernel
theorem dX4_two_108 : decode cX4_two 108 = .ok (.aload_n 0, 1) := by decide +kernel
theorem dX4_two_109 : decode cX4_two 109 = .ok (.iload_n 2, 1) := by decide +kernel
theorem dX4_two_110 : decode cX4_two 110 = .ok (.iconst 1, 1) := by decide +kernel
theorem dX4_two_111 : decode cX4_two 111 = .ok (.iload 6, 2) := by decide +kernel
theorem dX4_two_113 : decode cX4_two 113 = .ok (.isub, 1) := by decide +kernel
theorem dX4_two_114 : decode cX4_two 114 = .ok (.iload_n 3, 1) := by decide +kernel
theorem dX4_two_115 : decode cX4_two 115 = .ok (.invokevirtual 228, 3) := by decide +kernel
theorem dX4_two_118 : decode cX4_two 118 = .ok (.if_icmp .gt 7, 3) := by decide +kernel
theorem dX4_two_121 : decode cX4_two 121 = .ok (.iconst 1, 1) := by decide +kernel
theorem dX4_two_122 : decode cX4_two 122 = .ok (.goto 4, 3) := by decide +kernel
theorem dX4_two_125 : decode cX4_two 125 = .ok (.iconst 0, 1) := by decide +kernel
theorem dX4_two_126 : decode cX4_two 126 = .ok (.istore 8, 2) := by decide +kernel
theorem dX4_two_128 : decode cX4_two 128 = .ok (.iload 7, 2) := by decide +kernel
theorem dX4_two_130 : decode cX4_two 130 = .ok (.ifCond .eq 17, 3) := by decide +kernel
theorem dX4_two_133 : decode cX4_two 133 = .ok (.iload 8, 2) := by decide +kernel
theorem dX4_two_135 : decode cX4_two 135 = .ok (.ifCond .eq 12, 3) := by decide +kernel
theorem dX4_two_138 : decode cX4_two 138 = .ok (.bipush 10, 2) := by decide +kernel
theorem dX4_two_140 : decode cX4_two 140 = .ok (.iload 5, 2) := by decide +kernel
theorem dX4_two_142 : decode cX4_two 142 = .ok (.imul, 1) := by decide +kernel
theorem dX4_two_143 : decode cX4_two 143 = .ok (.iload 6, 2) := by decide +kernel
theorem dX4_two_145 : decode cX4_two 145 = .ok (.iadd, 1) := by decide +kernel
theorem dX4_two_146 : decode cX4_two 146 = .ok (.ireturn, 1) := by decide +kernel
theorem dX4_two_147 : decode cX4_two 147 = .ok (.iinc 6 1, 3) := by decide +kernel
theorem dX4_two_150 : decode cX4_two 150 = .ok (.goto (-84), 3) := by decide +kernel
theorem dX4_two_153 : decode cX4_two 153 = .ok (.iinc 5 1, 3) := by decide +kernel
theorem dX4_two_156 : decode cX4_two 156 = .ok (.goto (-99), 3) := by decide +kernel
theorem dX4_two_159 : decode cX4_two 159 = .ok (.bipush (-9), 2) := by decide +kernel
theorem dX4_two_161 : decode cX4_two 161 = .ok (.ireturn, 1) := by decide +kernel
theorem dX4_mud_0 : decode cX4_mud 0 = .ok (.aload_n 0, 1) := by decide +kernel
theorem dX4_mud_1 : decode cX4_mud 1 = .ok (.getfield 12, 3) := by decide +kernel
theorem dX4_mud_4 : decode cX4_mud 4 = .ok (.iload_n 1, 1) := by decide +kernel
theorem dX4_mud_5 : decode cX4_mud 5 = .ok (.invokevirtual 85, 3) := by decide +kernel
theorem dX4_mud_8 : decode cX4_mud 8 = .ok (.ifCond .eq 10, 3) := by decide +kernel
theorem dX4_mud_11 : decode cX4_mud 11 = .ok (.iload_n 2, 1) := by decide +kernel
theorem dX4_mud_12 : decode cX4_mud 12 = .ok (.invokestatic 119, 3) := by decide +kernel
theorem dX4_mud_15 : decode cX4_mud 15 = .ok (.ifCond .ne 9, 3) := by decide +kernel
theorem dX4_mud_18 : decode cX4_mud 18 = .ok (.aload_n 0, 1) := by decide +kernel
theorem dX4_mud_19 : decode cX4_mud 19 = .ok (.iconst (-1), 1) := by decide +kernel
theorem dX4_mud_20 : decode cX4_mud 20 = .ok (.invokevirtual 231, 3) := by decide +kernel
theorem dX4_mud_23 : decode cX4_mud 23 = .ok (.lreturn, 1) := by decide +kernel
theorem dX4_mud_24 : decode cX4_mud 24 = .ok (.iload_n 3, 1) := by decide +kernel
theorem dX4_mud_25 : decode cX4_mud 25 = .ok (.ifCond .lt 9, 3) := by decide +kernel
theorem dX4_mud_28 : decode cX4_mud 28 = .ok (.iload 4, 2) := by decide +kernel
theorem dX4_mud_30 : decode cX4_mud 30 = .ok (.iconst 2, 1) := by decide +kernel
theorem dX4_mud_31 : decode cX4_mud 31 = .ok (.if_icmp .ge 10, 3) := by decide +kernel
theorem dX4_mud_34 : decode cX4_mud 34 = .ok (.aload_n 0, 1) := by decide +kernel
theorem dX4_mud_35 : decode cX4_mud 35 = .ok (.bipush (-4), 2) := by decide +kernel
theorem dX4_mud_37 : decode cX4_mud 37 = .ok (.invokevirtual 231, 3) := by decide +kernel
theorem dX4_mud_40 : decode cX4_mud 40 = .ok (.lreturn, 1) := by decide +kernel
theorem dX4_mud_41 : decode cX4_mud 41 = .ok (.iload_n 3, 1) := by decide +kernel
theorem dX4_mud_42 : decode cX4_mud 42 = .ok (.bipush 7, 2) := by decide +kernel
theorem dX4_mud_44 : decode cX4_mud 44 = .ok (.if_icmp .gt 10, 3) := by decide +kernel
theorem dX4_mud_47 : decode cX4_mud 47 = .ok (.iload 4, 2) := by decide +kernel
theorem dX4_mud_49 : decode cX4_mud 49 = .ok (.bipush 20, 2) := by decide +kernel
theorem dX4_mud_51 : decode cX4_mud 51 = .ok (.if_icmp .le 10, 3) := by decide +kernel
theorem dX4_mud_54 : decode cX4_mud 54 = .ok (.aload_n 0, 1) := by decide +kernel
theorem dX4_mud_55 : decode cX4_mud 55 = .ok (.bipush (-6), 2) := by decide +kernel
theorem dX4_mud_57 : decode cX4_mud 57 = .ok (.invokevirtual 231, 3) := by decide +kernel
theorem dX4_mud_60 : decode cX4_mud 60 = .ok (.lreturn, 1) := by decide +kernel
theorem dX4_mud_61 : decode cX4_mud 61 = .ok (.iload 5, 2) := by decide +kernel
theorem dX4_mud_63 : decode cX4_mud 63 = .ok (.iconst 2, 1) := by decide +kernel
theorem dX4_mud_64 : decode cX4_mud 64 = .ok (.invokestatic 149, 3) := by decide +kernel
theorem dX4_mud_67 : decode cX4_mud 67 = .ok (.ifCond .ne 10, 3) := by decide +kernel
theorem dX4_mud_70 : decode cX4_mud 70 = .ok (.aload_n 0, 1) := by decide +kernel
theorem dX4_mud_71 : decode cX4_mud 71 = .ok (.bipush (-2), 2) := by decide +kernel
theorem dX4_mud_73 : decode cX4_mud 73 = .ok (.invokevirtual 231, 3) := by decide +kernel
theorem dX4_mud_76 : decode cX4_mud 76 = .ok (.lreturn, 1) := by decide +kernel
theorem dX4_mud_77 : decode cX4_mud 77 = .ok (.lconst 1, 1) := by decide +kernel
theorem dX4_mud_78 : decode cX4_mud 78 = .ok (.lstore 6, 2) := by decide +kernel
theorem dX4_mud_80 : decode cX4_mud 80 = .ok (.aload_n 0, 1) := by decide +kernel
theorem dX4_mud_81 : decode cX4_mud 81 = .ok (.iload_n 1, 1) := by decide +kernel
theorem dX4_mud_82 : decode cX4_mud 82 = .ok (.invokevirtual 235, 3) := by decide +kernel
theorem dX4_mud_85 : decode cX4_mud 85 = .ok (.iconst 0, 1) := by decide +kernel
theorem dX4_mud_86 : decode cX4_mud 86 = .ok (.istore 8, 2) := by decide +kernel
theorem dX4_mud_88 : decode cX4_mud 88 = .ok (.iload 8, 2) := by decide +kernel
theorem dX4_mud_90 : decode cX4_mud 90 = .ok (.iload_n 3, 1) := by decide +kernel
theorem dX4_mud_91 : decode cX4_mud 91 = .ok (.if_icmp .ge 30, 3) := by decide +kernel
theorem dX4_mud_94 : decode cX4_mud 94 = .ok (.aload_n 0, 1) := by decide +kernel
theorem dX4_mud_95 : decode cX4_mud 95 = .ok (.getfield 32, 3) := by decide +kernel
theorem dX4_mud_98 : decode cX4_mud 98 = .ok (.invokevirtual 222, 3) := by decide +kernel
theorem dX4_mud_101 : decode cX4_mud 101 = .ok (.aload_n 0, 1) := by decide +kernel
theorem dX4_mud_102 : decode cX4_mud 102 = .ok (.iload 4, 2) := by decide +kernel
theorem dX4_mud_104 : decode cX4_mud 104 = .ok (.invokevirtual 238, 3) := by decide +kernel
theorem dX4_mud_107 : decode cX4_mud 107 = .ok (.lload 6, 2) := by decide +kernel
theorem dX4_mud_109 : decode cX4_mud 109 = .ok (.iload 4, 2) := by decide +kernel
theorem dX4_mud_111 : decode cX4_mud 111 = .ok (.i2l, 1) := by decide +kernel
theorem dX4_mud_112 : decode cX4_mud 112 = .ok (.lmul, 1) := by decide +kernel
theorem dX4_mud_113 : decode cX4_mud 113 = .ok (.lstore 6, 2) := by decide +kernel
theorem dX4_mud_115 : decode cX4_mud 115 = .ok (.iinc 8 1, 3) := by decide +kernel
theorem dX4_mud_118 : decode cX4_mud 118 = .ok (.goto (-30), 3) := by decide +kernel
theorem dX4_mud_121 : decode cX4_mud 121 = .ok (.aload_n 0, 1) := by decide +kernel
theorem dX4_mud_122 : decode cX4_mud 122 = .ok (.getfield 56, 3) := by decide +kernel
theorem dX4_mud_125 : decode cX4_mud 125 = .ok (.iload_n 2, 1) := by decide +kernel
theorem dX4_mud_126 : decode cX4_mud 126 = .ok (.laload, 1) := by decide +kernel
theorem dX4_mud_127 : decode cX4_mud 127 = .ok (.lload 6, 2) := by decide +kernel
theorem dX4_mud_129 : decode cX4_mud 129 = .ok (.iload 5, 2) := by decide +kernel
theorem dX4_mud_131 : decode cX4_mud 131 = .ok (.invokestatic 241, 3) := by decide +kernel
theorem dX4_mud_134 : decode cX4_mud 134 = .ok (.lreturn, 1) := by decide +kernel
theorem dX4_mean_0 : decode cX4_mean 0 = .ok (.iload_n 1, 1) := by decide +kernel
theorem dX4_mean_1 : decode cX4_mean 1 = .ok (.iconst 2, 1) := by decide +kernel
theorem dX4_mean_2 : decode cX4_mean 2 = .ok (.invokestatic 149, 3) := by decide +kernel
theorem dX4_mean_5 : decode cX4_mean 5 = .ok (.ifCond .ne 10, 3) := by decide +kernel
theorem dX4_mean_8 : decode cX4_mean 8 = .ok (.aload_n 0, 1) := by decide +kernel
theorem dX4_mean_9 : decode cX4_mean 9 = .ok (.bipush (-2), 2) := by decide +kernel
theorem dX4_mean_11 : decode cX4_mean 11 = .ok (.invokevirtual 231, 3) := by decide +kernel
theorem dX4_mean_14 : decode cX4_mean 14 = .ok (.lreturn, 1) := by decide +kernel
theorem dX4_mean_15 : decode cX4_mean 15 = .ok (.aload_n 0, 1) := by decide +kernel
theorem dX4_mean_16 : decode cX4_mean 16 = .ok (.getfield 12, 3) := by decide +kernel
theorem dX4_mean_19 : decode cX4_mean 19 = .ok (.invokevirtual 245, 3) := by decide +kernel
theorem dX4_mean_22 : decode cX4_mean 22 = .ok (.i2l, 1) := by decide +kernel
theorem dX4_mean_23 : decode cX4_mean 23 = .ok (.aload_n 0, 1) := by decide +kernel
theorem dX4_mean_24 : decode cX4_mean 24 = .ok (.getfield 12, 3) := by decide +kernel
theorem dX4_mean_27 : decode cX4_mean 27 = .ok (.getfield 181, 3) := by decide +kernel
theorem dX4_mean_30 : decode cX4_mean 30 = .ok (.i2l, 1) := by decide +kernel
theorem dX4_mean_31 : decode cX4_mean 31 = .ok (.iload_n 1, 1) := by decide +kernel
theorem dX4_mean_32 : decode cX4_mean 32 = .ok (.invokestatic 241, 3) := by decide +kernel
theorem dX4_mean_35 : decode cX4_mean 35 = .ok (.lreturn, 1) := by decide +kernel
theorem dX4_whatWanted_0 : decode cX4_whatWanted 0 = .ok (.aload_n 0, 1) := by decide +kernel
theorem dX4_whatWanted_1 : decode cX4_whatWanted 1 = .ok (.getfield 12, 3) := by decide +kernel
theorem dX4_whatWanted_4 : decode cX4_whatWanted 4 = .ok (.iload_n 1, 1) := by decide +kernel
theorem dX4_whatWanted_5 : decode cX4_whatWanted 5 = .ok (.invokevirtual 85, 3) := by decide +kernel
theorem dX4_whatWanted_8 : decode cX4_whatWanted 8 = .ok (.ifCond .ne 9, 3) := by decide +kernel
theorem dX4_whatWanted_11 : decode cX4_whatWanted 11 = .ok (.aload_n 0, 1) := by decide +kernel
theorem dX4_whatWanted_12 : decode cX4_whatWanted 12 = .ok (.iconst (-1), 1) := by decide +kernel
theorem dX4_whatWanted_13 : decode cX4_whatWanted 13 = .ok (.invokevirtual 63, 3) := by decide +kernel
theorem dX4_whatWanted_16 : decode cX4_whatWanted 16 = .ok (.ireturn, 1) := by decide +kernel
theorem dX4_whatWanted_17 : decode cX4_whatWanted 17 = .ok (.iload_n 2, 1) := by decide +kernel
theorem dX4_whatWanted_18 : decode cX4_whatWanted 18 = .ok (.iconst 2, 1) := by decide +kernel
theorem dX4_whatWanted_19 : decode cX4_whatWanted 19 = .ok (.invokestatic 149, 3) := by decide +kernel
theorem dX4_whatWanted_22 : decode cX4_whatWanted 22 = .ok (.ifCond .ne 10, 3) := by decide +kernel
theorem dX4_whatWanted_25 : decode cX4_whatWanted 25 = .ok (.aload_n 0, 1) := by decide +kernel
theorem dX4_whatWanted_26 : decode cX4_whatWanted 26 = .ok (.bipush (-2), 2) := by decide +kernel
theorem dX4_whatWanted_28 : decode cX4_whatWanted 28 = .ok (.invokevirtual 63, 3) := by decide +kernel
theorem dX4_whatWanted_31 : decode cX4_whatWanted 31 = .ok (.ireturn, 1) := by decide +kernel
theorem dX4_whatWanted_32 : decode cX4_whatWanted 32 = .ok (.iload_n 2, 1) := by decide +kernel
theorem dX4_whatWanted_33 : decode cX4_whatWanted 33 = .ok (.ifCond .ne 8, 3) := by decide +kernel
theorem dX4_whatWanted_36 : decode cX4_whatWanted 36 = .ok (.bipush 8, 2) := by decide +kernel
theorem dX4_whatWanted_38 : decode cX4_whatWanted 38 = .ok (.goto 5, 3) := by decide +kernel
theorem dX4_whatWanted_41 : decode cX4_whatWanted 41 = .ok (.bipush 6, 2) := by decide +kernel
theorem dX4_whatWanted_43 : decode cX4_whatWanted 43 = .ok (.istore_n 3, 1) := by decide +kernel
theorem dX4_whatWanted_44 : decode cX4_whatWanted 44 = .ok (.iconst 0, 1) := by decide +kernel
theorem dX4_whatWanted_45 : decode cX4_whatWanted 45 = .ok (.istore 4, 2) := by decide +kernel
theorem dX4_whatWanted_47 : decode cX4_whatWanted 47 = .ok (.iconst 0, 1) := by decide +kernel
theorem dX4_whatWanted_48 : decode cX4_whatWanted 48 = .ok (.istore 5, 2) := by decide +kernel
theorem dX4_whatWanted_50 : decode cX4_whatWanted 50 = .ok (.iload 5, 2) := by decide +kernel
theorem dX4_whatWanted_52 : decode cX4_whatWanted 52 = .ok (.iload_n 3, 1) := by decide +kernel
theorem dX4_whatWanted_53 : decode cX4_whatWanted 53 = .ok (.if_icmp .ge 55, 3) := by decide +kernel
theorem dX4_whatWanted_56 : decode cX4_whatWanted 56 = .ok (.aload_n 0, 1) := by decide +kernel
theorem dX4_whatWanted_57 : decode cX4_whatWanted 57 = .ok (.iload_n 1, 1) := by decide +kernel
theorem dX4_whatWanted_58 : decode cX4_whatWanted 58 = .ok (.invokevirtual 167, 3) := by decide +kernel
theorem dX4_whatWanted_61 : decode cX4_whatWanted 61 = .ok (.iload_n 2, 1) := by decide +kernel
theorem dX4_whatWanted_62 : decode cX4_whatWanted 62 = .ok (.ifCond .ne 15, 3) := by decide +kernel
theorem dX4_whatWanted_65 : decode cX4_whatWanted 65 = .ok (.aload_n 0, 1) := by decide +kernel
theorem dX4_whatWanted_66 : decode cX4_whatWanted 66 = .ok (.getfield 32, 3) := by decide +kernel
theorem dX4_whatWanted_69 : decode cX4_whatWanted 69 = .ok (.iload 5, 2) := by decide +kernel
theorem dX4_whatWanted_71 : decode cX4_whatWanted 71 = .ok (.putfield 100, 3) := by decide +kernel
theorem dX4_whatWanted_74 : decode cX4_whatWanted 74 = .ok (.goto 12, 3) := by decide +kernel
theorem dX4_whatWanted_77 : decode cX4_whatWanted 77 = .ok (.aload_n 0, 1) := by decide +kernel
theorem dX4_whatWanted_78 : decode cX4_whatWanted 78 = .ok (.getfield 32, 3) := by decide +kernel
theorem dX4_whatWanted_81 : decode cX4_whatWanted 81 = .ok (.iload 5, 2) := by decide +kernel
theorem dX4_whatWanted_83 : decode cX4_whatWanted 83 = .ok (.putfield 93, 3) := by decide +kernel
theorem dX4_whatWanted_86 : decode cX4_whatWanted 86 = .ok (.aload_n 0, 1) := by decide +kernel
theorem dX4_whatWanted_87 : decode cX4_whatWanted 87 = .ok (.invokevirtual 248, 3) := by decide +kernel
theorem dX4_whatWanted_90 : decode cX4_whatWanted 90 = .ok (.ifCond .eq 12, 3) := by decide +kernel
theorem dX4_whatWanted_93 : decode cX4_whatWanted 93 = .ok (.iload 4, 2) := by decide +kernel
theorem dX4_whatWanted_95 : decode cX4_whatWanted 95 = .ok (.iconst 1, 1) := by decide +kernel
theorem dX4_whatWanted_96 : decode cX4_whatWanted 96 = .ok (.iload 5, 2) := by decide +kernel
theorem dX4_whatWanted_98 : decode cX4_whatWanted 98 = .ok (.ishl, 1) := by decide +kernel
theorem dX4_whatWanted_99 : decode cX4_whatWanted 99 = .ok (.ior, 1) := by decide +kernel
theorem dX4_whatWanted_100 : decode cX4_whatWanted 100 = .ok (.istore 4, 2) := by decide +kernel
theorem dX4_whatWanted_102 : decode cX4_whatWanted 102 = .ok (.iinc 5 1, 3) := by decide +kernel
theorem dX4_whatWanted_105 : decode cX4_whatWanted 105 = .ok (.goto (-55), 3) := by decide +kernel
theorem dX4_whatWanted_108 : decode cX4_whatWanted 108 = .ok (.iload 4, 2) := by decide +kernel
theorem dX4_whatWanted_110 : decode cX4_whatWanted 110 = .ok (.ireturn, 1) := by decide +kernel
theorem dX4_row_0 : decode cX4_row 0 = .ok (.iload_n 1, 1) := by decide +kernel
theorem dX4_row_1 : decode cX4_row 1 = .ok (.ifCond .ge 10, 3) := by decide +kernel
theorem dX4_row_4 : decode cX4_row 4 = .ok (.aload_n 0, 1) := by decide +kernel
theorem dX4_row_5 : decode cX4_row 5 = .ok (.bipush (-4), 2) := by decide +kernel
theorem dX4_row_7 : decode cX4_row 7 = .ok (.invokevirtual 63, 3) := by decide +kernel
theorem dX4_row_10 : decode cX4_row 10 = .ok (.ireturn, 1) := by decide +kernel
theorem dX4_row_11 : decode cX4_row 11 = .ok (.iload_n 1, 1) := by decide +kernel
theorem dX4_row_12 : decode cX4_row 12 = .ok (.bipush 99, 2) := by decide +kernel
theorem dX4_row_14 : decode cX4_row 14 = .ok (.if_icmp .gt 12, 3) := by decide +kernel
theorem dX4_row_17 : decode cX4_row 17 = .ok (.aload_n 0, 1) := by decide +kernel
theorem dX4_row_18 : decode cX4_row 18 = .ok (.getfield 251, 3) := by decide +kernel
theorem dX4_row_21 : decode cX4_row 21 = .ok (.bipush 16, 2) := by decide +kernel
theorem dX4_row_23 : decode cX4_row 23 = .ok (.if_icmp .lt 10, 3) := by decide +kernel
theorem dX4_row_26 : decode cX4_row 26 = .ok (.aload_n 0, 1) := by decide +kernel
theorem dX4_row_27 : decode cX4_row 27 = .ok (.bipush (-6), 2) := by decide +kernel
theorem dX4_row_29 : decode cX4_row 29 = .ok (.invokevirtual 63, 3) := by decide +kernel
theorem dX4_row_32 : decode cX4_row 32 = .ok (.ireturn, 1) := by decide +kernel
theorem dX4_row_33 : decode cX4_row 33 = .ok (.aload_n 0, 1) := by decide +kernel
theorem dX4_row_34 : decode cX4_row 34 = .ok (.getfield 46, 3) := by decide +kernel
theorem dX4_row_37 : decode cX4_row 37 = .ok (.aload_n 0, 1) := by decide +kernel
theorem dX4_row_38 : decode cX4_row 38 = .ok (.getfield 251, 3) := by decide +kernel
theorem dX4_row_41 : decode cX4_row 41 = .ok (.iload_n 1, 1) := by decide +kernel
theorem dX4_row_42 : decode cX4_row 42 = .ok (.iastore, 1) := by decide +kernel
theorem dX4_row_43 : decode cX4_row 43 = .ok (.aload_n 0, 1) := by decide +kernel
theorem dX4_row_44 : decode cX4_row 44 = .ok (.dup, 1) := by decide +kernel
theorem dX4_row_45 : decode cX4_row 45 = .ok (.getfield 251, 3) := by decide +kernel
theorem dX4_row_48 : decode cX4_row 48 = .ok (.iconst 1, 1) := by decide +kernel
theorem dX4_row_49 : decode cX4_row 49 = .ok (.iadd, 1) := by decide +kernel
theorem dX4_row_50 : decode cX4_row 50 = .ok (.putfield 251, 3) := by decide +kernel
theorem dX4_row_53 : decode cX4_row 53 = .ok (.aload_n 0, 1) := by decide +kernel
theorem dX4_row_54 : decode cX4_row 54 = .ok (.getfield 251, 3) := by decide +kernel
theorem dX4_row_57 : decode cX4_row 57 = .ok (.ireturn, 1) := by decide +kernel
theorem dX4_judge_0 : decode cX4_judge 0 = .ok (.aload_n 0, 1) := by decide +kernel
theorem dX4_judge_1 : decode cX4_judge 1 = .ok (.invokevirtual 254, 3) := by decide +kernel
theorem dX4_judge_4 : decode cX4_judge 4 = .ok (.istore_n 1, 1) := by decide +kernel
theorem dX4_judge_5 : decode cX4_judge 5 = .ok (.aload_n 0, 1) := by decide +kernel
theorem dX4_judge_6 : decode cX4_judge 6 = .ok (.iconst 0, 1) := by decide +kernel
theorem dX4_judge_7 : decode cX4_judge 7 = .ok (.putfield 251, 3) := by decide +kernel
theorem dX4_judge_10 : decode cX4_judge 10 = .ok (.iload_n 1, 1) := by decide +kernel
theorem dX4_judge_11 : decode cX4_judge 11 = .ok (.ireturn, 1) := by decide +kernel
theorem dX4_clear_0 : decode cX4_clear 0 = .ok (.aload_n 0, 1) := by decide +kernel
theorem dX4_clear_1 : decode cX4_clear 1 = .ok (.getfield 251, 3) := by decide +kernel
theorem dX4_clear_4 : decode cX4_clear 4 = .ok (.istore_n 1, 1) := by decide +kernel
theorem dX4_clear_5 : decode cX4_clear 5 = .ok (.aload_n 0, 1) := by decide +kernel
theorem dX4_clear_6 : decode cX4_clear 6 = .ok (.iconst 0, 1) := by decide +kernel
theorem dX4_clear_7 : decode cX4_clear 7 = .ok (.putfield 251, 3) := by decide +kernel
theorem dX4_clear_10 : decode cX4_clear 10 = .ok (.iload_n 1, 1) := by decide +kernel
theorem dX4_clear_11 : decode cX4_clear 11 = .ok (.ireturn, 1) := by decide +kernel
theorem dX4_lots_0 : decode cX4_lots 0 = .ok (.iload_n 1, 1) := by decide +kernel
theorem dX4_lots_1 : decode cX4_lots 1 = .ok (.iconst 1, 1) := by decide +kernel
theorem dX4_lots_2 : decode cX4_lots 2 = .ok (.bipush 20, 2) := by decide +kernel
theorem dX4_lots_4 : decode cX4_lots 4 = .ok (.invokestatic 163, 3) := by decide +kernel
theorem dX4_lots_7 : decode cX4_lots 7 = .ok (.istore 4, 2) := by decide +kernel
theorem dX4_lots_9 : decode cX4_lots 9 = .ok (.iload 4, 2) := by decide +kernel
theorem dX4_lots_11 : decode cX4_lots 11 = .ok (.ifCond .eq 10, 3) := by decide +kernel
theorem dX4_lots_14 : decode cX4_lots 14 = .ok (.aload_n 0, 1) := by decide +kernel
theorem dX4_lots_15 : decode cX4_lots 15 = .ok (.iload 4, 2) := by decide +kernel
theorem dX4_lots_17 : decode cX4_lots 17 = .ok (.invokevirtual 63, 3) := by decide +kernel
theorem dX4_lots_20 : decode cX4_lots 20 = .ok (.ireturn, 1) := by decide +kernel
theorem dX4_lots_21 : decode cX4_lots 21 = .ok (.iload_n 3, 1) := by decide +kernel
theorem dX4_lots_22 : decode cX4_lots 22 = .ok (.iconst 2, 1) := by decide +kernel
theorem dX4_lots_23 : decode cX4_lots 23 = .ok (.invokestatic 149, 3) := by decide +kernel
theorem dX4_lots_26 : decode cX4_lots 26 = .ok (.ifCond .ne 10, 3) := by decide +kernel
theorem dX4_lots_29 : decode cX4_lots 29 = .ok (.aload_n 0, 1) := by decide +kernel
theorem dX4_lots_30 : decode cX4_lots 30 = .ok (.bipush (-2), 2) := by decide +kernel
theorem dX4_lots_32 : decode cX4_lots 32 = .ok (.invokevirtual 63, 3) := by decide +kernel
theorem dX4_lots_35 : decode cX4_lots 35 = .ok (.ireturn, 1) := by decide +kernel
theorem dX4_lots_36 : decode cX4_lots 36 = .ok (.iload_n 2, 1) := by decide +kernel
theorem dX4_lots_37 : decode cX4_lots 37 = .ok (.istore 5, 2) := by decide +kernel
theorem dX4_lots_39 : decode cX4_lots 39 = .ok (.iconst 0, 1) := by decide +kernel
theorem dX4_lots_40 : decode cX4_lots 40 = .ok (.istore 6, 2) := by decide +kernel
theorem dX4_lots_42 : decode cX4_lots 42 = .ok (.iconst 0, 1) := by decide +kernel
theorem dX4_lots_43 : decode cX4_lots 43 = .ok (.istore 7, 2) := by decide +kernel
theorem dX4_lots_45 : decode cX4_lots 45 = .ok (.iload 7, 2) := by decide +kernel
theorem dX4_lots_47 : decode cX4_lots 47 = .ok (.iload_n 1, 1) := by decide +kernel
theorem dX4_lots_48 : decode cX4_lots 48 = .ok (.if_icmp .ge 132, 3) := by decide +kernel
theorem dX4_lots_51 : decode cX4_lots 51 = .ok (.iconst 0, 1) := by decide +kernel
theorem dX4_lots_52 : decode cX4_lots 52 = .ok (.istore 8, 2) := by decide +kernel
theorem dX4_lots_54 : decode cX4_lots 54 = .ok (.iload 8, 2) := by decide +kernel
theorem dX4_lots_56 : decode cX4_lots 56 = .ok (.aload_n 0, 1) := by decide +kernel
theorem dX4_lots_57 : decode cX4_lots 57 = .ok (.getfield 12, 3) := by decide +kernel
theorem dX4_lots_60 : decode cX4_lots 60 = .ok (.getfield 181, 3) := by decide +kernel
theorem dX4_lots_63 : decode cX4_lots 63 = .ok (.if_icmp .ge 111, 3) := by decide +kernel
theorem dX4_lots_66 : decode cX4_lots 66 = .ok (.aload_n 0, 1) := by decide +kernel
theorem dX4_lots_67 : decode cX4_lots 67 = .ok (.iload 8, 2) := by decide +kernel
theorem dX4_lots_69 : decode cX4_lots 69 = .ok (.invokevirtual 167, 3) := by decide +kernel
theorem dX4_lots_72 : decode cX4_lots 72 = .ok (.iload 5, 2) := by decide +kernel
theorem dX4_lots_74 : decode cX4_lots 74 = .ok (.invokestatic 257, 3) := by decide +kernel
theorem dX4_lots_77 : decode cX4_lots 77 = .ok (.istore 5, 2) := by decide +kernel
theorem dX4_lots_79 : decode cX4_lots 79 = .ok (.aload_n 0, 1) := by decide +kernel
theorem dX4_lots_80 : decode cX4_lots 80 = .ok (.getfield 32, 3) := by decide +kernel
theorem dX4_lots_83 : decode cX4_lots 83 = .ok (.iload 5, 2) := by decide +kernel
theorem dX4_lots_85 : decode cX4_lots 85 = .ok (.bipush 8, 2) := by decide +kernel
theorem dX4_lots_87 : decode cX4_lots 87 = .ok (.invokestatic 260, 3) := by decide +kernel
theorem dX4_lots_90 : decode cX4_lots 90 = .ok (.putfield 106, 3) := by decide +kernel
theorem dX4_lots_93 : decode cX4_lots 93 = .ok (.iload 5, 2) := by decide +kernel
theorem dX4_lots_95 : decode cX4_lots 95 = .ok (.invokestatic 257, 3) := by decide +kernel
theorem dX4_lots_98 : decode cX4_lots 98 = .ok (.istore 5, 2) := by decide +kernel
theorem dX4_lots_100 : decode cX4_lots 100 = .ok (.aload_n 0, 1) := by decide +kernel
theorem dX4_lots_101 : decode cX4_lots 101 = .ok (.getfield 32, 3) := by decide +kernel
theorem dX4_lots_104 : decode cX4_lots 104 = .ok (.iload 5, 2) := by decide +kernel
theorem dX4_lots_106 : decode cX4_lots 106 = .ok (.iconst 5, 1) := by decide +kernel
theorem dX4_lots_107 : decode cX4_lots 107 = .ok (.invokestatic 260, 3) := by decide +kernel
theorem dX4_lots_110 : decode cX4_lots 110 = .ok (.putfield 109, 3) := by decide +kernel
theorem dX4_lots_113 : decode cX4_lots 113 = .ok (.aload_n 0, 1) := by decide +kernel
theorem dX4_lots_114 : decode cX4_lots 114 = .ok (.getfield 32, 3) := by decide +kernel
theorem dX4_lots_117 : decode cX4_lots 117 = .ok (.aload_n 0, 1) := by decide +kernel
theorem dX4_lots_118 : decode cX4_lots 118 = .ok (.getfield 12, 3) := by decide +kernel
theorem dX4_lots_121 : decode cX4_lots 121 = .ok (.getfield 122, 3) := by decide +kernel
theorem dX4_lots_124 : decode cX4_lots 124 = .ok (.bipush 10, 2) := by decide +kernel
theorem dX4_lots_126 : decode cX4_lots 126 = .ok (.invokevirtual 171, 3) := by decide +kernel
theorem dX4_lots_129 : decode cX4_lots 129 = .ok (.iload_n 3, 1) := by decide +kernel
theorem dX4_lots_130 : decode cX4_lots 130 = .ok (.ifCond .ne 25, 3) := by decide +kernel
theorem dX4_lots_133 : decode cX4_lots 133 = .ok (.iload 6, 2) := by decide +kernel
theorem dX4_lots_135 : decode cX4_lots 135 = .ok (.aload_n 0, 1) := by decide +kernel
theorem dX4_lots_136 : decode cX4_lots 136 = .ok (.getfield 32, 3) := by decide +kernel
theorem dX4_lots_139 : decode cX4_lots 139 = .ok (.aload_n 0, 1) := by decide +kernel
theorem dX4_lots_140 : decode cX4_lots 140 = .ok (.getfield 12, 3) := by decide +kernel
theorem dX4_lots_143 : decode cX4_lots 143 = .ok (.getfield 122, 3) := by decide +kernel
theorem dX4_lots_146 : decode cX4_lots 146 = .ok (.invokevirtual 263, 3) := by decide +kernel
theorem dX4_lots_149 : decode cX4_lots 149 = .ok (.iadd, 1) := by decide +kernel
theorem dX4_lots_150 : decode cX4_lots 150 = .ok (.istore 6, 2) := by decide +kernel
theorem dX4_lots_152 : decode cX4_lots 152 = .ok (.goto 16, 3) := by decide +kernel
theorem dX4_lots_155 : decode cX4_lots 155 = .ok (.aload_n 0, 1) := by decide +kernel
theorem dX4_lots_156 : decode cX4_lots 156 = .ok (.getfield 32, 3) := by decide +kernel
theorem dX4_lots_159 : decode cX4_lots 159 = .ok (.invokevirtual 267, 3) := by decide +kernel
theorem dX4_lots_162 : decode cX4_lots 162 = .ok (.ifCond .eq 6, 3) := by decide +kernel
theorem dX4_lots_165 : decode cX4_lots 165 = .ok (.iinc 6 1, 3) := by decide +kernel
theorem dX4_lots_168 : decode cX4_lots 168 = .ok (.iinc 8 1, 3) := by decide +kernel
theorem dX4_lots_171 : decode cX4_lots 171 = .ok (.goto (-117), 3) := by decide +kernel
theorem dX4_lots_174 : decode cX4_lots 174 = .ok (.iinc 7 1, 3) := by decide +kernel
theorem dX4_lots_177 : decode cX4_lots 177 = .ok (.goto (-132), 3) := by decide +kernel
theorem dX4_lots_180 : decode cX4_lots 180 = .ok (.iload 6, 2) := by decide +kernel
theorem dX4_lots_182 : decode cX4_lots 182 = .ok (.ireturn, 1) := by decide +kernel
theorem dX4_image_0 : decode cX4_image 0 = .ok (.aload_n 0, 1) := by decide +kernel
theorem dX4_image_1 : decode cX4_image 1 = .ok (.getfield 16, 3) := by decide +kernel
theorem dX4_image_4 : decode cX4_image 4 = .ok (.aload_n 0, 1) := by decide +kernel
theorem dX4_image_5 : decode cX4_image 5 = .ok (.getfield 12, 3) := by decide +kernel
theorem dX4_image_8 : decode cX4_image 8 = .ok (.invokevirtual 74, 3) := by decide +kernel
theorem dX4_image_11 : decode cX4_image 11 = .ok (.aload_n 0, 1) := by decide +kernel
theorem dX4_image_12 : decode cX4_image 12 = .ok (.iconst 1, 1) := by decide +kernel
theorem dX4_image_13 : decode cX4_image 13 = .ok (.putfield 270, 3) := by decide +kernel
theorem dX4_image_16 : decode cX4_image 16 = .ok (.aload_n 0, 1) := by decide +kernel
theorem dX4_image_17 : decode cX4_image 17 = .ok (.getfield 12, 3) := by decide +kernel
theorem dX4_image_20 : decode cX4_image 20 = .ok (.getfield 274, 3) := by decide +kernel
theorem dX4_image_23 : decode cX4_image 23 = .ok (.ireturn, 1) := by decide +kernel
theorem dX4_on_0 : decode cX4_on 0 = .ok (.aload_n 0, 1) := by decide +kernel
theorem dX4_on_1 : decode cX4_on 1 = .ok (.getfield 270, 3) := by decide +kernel
theorem dX4_on_4 : decode cX4_on 4 = .ok (.ifCond .ne 10, 3) := by decide +kernel
theorem dX4_on_7 : decode cX4_on 7 = .ok (.aload_n 0, 1) := by decide +kernel
theorem dX4_on_8 : decode cX4_on 8 = .ok (.bipush (-3), 2) := by decide +kernel
theorem dX4_on_10 : decode cX4_on 10 = .ok (.invokevirtual 63, 3) := by decide +kernel
theorem dX4_on_13 : decode cX4_on 13 = .ok (.ireturn, 1) := by decide +kernel
theorem dX4_on_14 : decode cX4_on 14 = .ok (.aload_n 0, 1) := by decide +kernel
theorem dX4_on_15 : decode cX4_on 15 = .ok (.getfield 12, 3) := by decide +kernel
theorem dX4_on_18 : decode cX4_on 18 = .ok (.aload_n 0, 1) := by decide +kernel
theorem dX4_on_19 : decode cX4_on 19 = .ok (.getfield 16, 3) := by decide +kernel
theorem dX4_on_22 : decode cX4_on 22 = .ok (.invokevirtual 74, 3) := by decide +kernel
theorem dX4_on_25 : decode cX4_on 25 = .ok (.aload_n 0, 1) := by decide +kernel
theorem dX4_on_26 : decode cX4_on 26 = .ok (.getfield 12, 3) := by decide +kernel
theorem dX4_on_29 : decode cX4_on 29 = .ok (.getfield 274, 3) := by decide +kernel
theorem dX4_on_32 : decode cX4_on 32 = .ok (.ireturn, 1) := by decide +kernel
theorem dX4_count_0 : decode cX4_count 0 = .ok (.iload_n 1, 1) := by decide +kernel
theorem dX4_count_1 : decode cX4_count 1 = .ok (.tableswitch 111 0 7 #[47, 55, 63, 74, 82, 90, 98, 103], 47) := by decide +kernel
theorem dX4_count_48 : decode cX4_count 48 = .ok (.aload_n 0, 1) := by decide +kernel
theorem dX4_count_49 : decode cX4_count 49 = .ok (.getfield 12, 3) := by decide +kernel
theorem dX4_count_52 : decode cX4_count 52 = .ok (.getfield 181, 3) := by decide +kernel
theorem dX4_count_55 : decode cX4_count 55 = .ok (.ireturn, 1) := by decide +kernel
theorem dX4_count_56 : decode cX4_count 56 = .ok (.aload_n 0, 1) := by decide +kernel
theorem dX4_count_57 : decode cX4_count 57 = .ok (.getfield 12, 3) := by decide +kernel
theorem dX4_count_60 : decode cX4_count 60 = .ok (.getfield 274, 3) := by decide +kernel
theorem dX4_count_63 : decode cX4_count 63 = .ok (.ireturn, 1) := by decide +kernel
theorem dX4_count_64 : decode cX4_count 64 = .ok (.aload_n 0, 1) := by decide +kernel
theorem dX4_count_65 : decode cX4_count 65 = .ok (.getfield 12, 3) := by decide +kernel
theorem dX4_count_68 : decode cX4_count 68 = .ok (.getfield 122, 3) := by decide +kernel
theorem dX4_count_71 : decode cX4_count 71 = .ok (.invokevirtual 277, 3) := by decide +kernel
theorem dX4_count_74 : decode cX4_count 74 = .ok (.ireturn, 1) := by decide +kernel
theorem dX4_count_75 : decode cX4_count 75 = .ok (.aload_n 0, 1) := by decide +kernel
theorem dX4_count_76 : decode cX4_count 76 = .ok (.getfield 12, 3) := by decide +kernel
theorem dX4_count_79 : decode cX4_count 79 = .ok (.invokevirtual 155, 3) := by decide +kernel
theorem dX4_count_82 : decode cX4_count 82 = .ok (.ireturn, 1) := by decide +kernel
theorem dX4_count_83 : decode cX4_count 83 = .ok (.aload_n 0, 1) := by decide +kernel
theorem dX4_count_84 : decode cX4_count 84 = .ok (.getfield 12, 3) := by decide +kernel
theorem dX4_count_87 : decode cX4_count 87 = .ok (.invokevirtual 245, 3) := by decide +kernel
theorem dX4_count_90 : decode cX4_count 90 = .ok (.ireturn, 1) := by decide +kernel
theorem dX4_count_91 : decode cX4_count 91 = .ok (.aload_n 0, 1) := by decide +kernel
theorem dX4_count_92 : decode cX4_count 92 = .ok (.getfield 12, 3) := by decide +kernel
theorem dX4_count_95 : decode cX4_count 95 = .ok (.invokevirtual 280, 3) := by decide +kernel
theorem dX4_count_98 : decode cX4_count 98 = .ok (.ireturn, 1) := by decide +kernel
theorem dX4_count_99 : decode cX4_count 99 = .ok (.aload_n 0, 1) := by decide +kernel
theorem dX4_count_100 : decode cX4_count 100 = .ok (.getfield 251, 3) := by decide +kernel
theorem dX4_count_103 : decode cX4_count 103 = .ok (.ireturn, 1) := by decide +kernel
theorem dX4_count_104 : decode cX4_count 104 = .ok (.aload_n 0, 1) := by decide +kernel
theorem dX4_count_105 : decode cX4_count 105 = .ok (.getfield 42, 3) := by decide +kernel
theorem dX4_count_108 : decode cX4_count 108 = .ok (.getfield 283, 3) := by decide +kernel
theorem dX4_count_111 : decode cX4_count 111 = .ok (.ireturn, 1) := by decide +kernel
theorem dX4_count_112 : decode cX4_count 112 = .ok (.aload_n 0, 1) := by decide +kernel
theorem dX4_count_113 : decode cX4_count 113 = .ok (.iload_n 1, 1) := by decide +kernel
theorem dX4_count_114 : decode cX4_count 114 = .ok (.invokevirtual 286, 3) := by decide +kernel
theorem dX4_count_117 : decode cX4_count 117 = .ok (.ireturn, 1) := by decide +kernel
theorem dX4_refusalCount_0 : decode cX4_refusalCount 0 = .ok (.iload_n 1, 1) := by decide +kernel
theorem dX4_refusalCount_1 : decode cX4_refusalCount 1 = .ok (.bipush 11, 2) := by decide +kernel
theorem dX4_refusalCount_3 : decode cX4_refusalCount 3 = .ok (.if_icmp .lt 9, 3) := by decide +kernel
theorem dX4_refusalCount_6 : decode cX4_refusalCount 6 = .ok (.iload_n 1, 1) := by decide +kernel
theorem dX4_refusalCount_7 : decode cX4_refusalCount 7 = .ok (.bipush 17, 2) := by decide +kernel
theorem dX4_refusalCount_9 : decode cX4_refusalCount 9 = .ok (.if_icmp .lt 6, 3) := by decide +kernel
theorem dX4_refusalCount_12 : decode cX4_refusalCount 12 = .ok (.bipush (-9), 2) := by decide +kernel
theorem dX4_refusalCount_14 : decode cX4_refusalCount 14 = .ok (.ireturn, 1) := by decide +kernel
theorem dX4_refusalCount_15 : decode cX4_refusalCount 15 = .ok (.aload_n 0, 1) := by decide +kernel
theorem dX4_refusalCount_16 : decode cX4_refusalCount 16 = .ok (.getfield 50, 3) := by decide +kernel
theorem dX4_refusalCount_19 : decode cX4_refusalCount 19 = .ok (.iload_n 1, 1) := by decide +kernel
theorem dX4_refusalCount_20 : decode cX4_refusalCount 20 = .ok (.bipush 11, 2) := by decide +kernel
theorem dX4_refusalCount_22 : decode cX4_refusalCount 22 = .ok (.isub, 1) := by decide +kernel
theorem dX4_refusalCount_23 : decode cX4_refusalCount 23 = .ok (.iconst 1, 1) := by decide +kernel
theorem dX4_refusalCount_24 : decode cX4_refusalCount 24 = .ok (.iadd, 1) := by decide +kernel
theorem dX4_refusalCount_25 : decode cX4_refusalCount 25 = .ok (.iaload, 1) := by decide +kernel
theorem dX4_refusalCount_26 : decode cX4_refusalCount 26 = .ok (.ireturn, 1) := by decide +kernel
theorem dX4_refuse_0 : decode cX4_refuse 0 = .ok (.iload_n 1, 1) := by decide +kernel
theorem dX4_refuse_1 : decode cX4_refuse 1 = .ok (.ifCond .ge 20, 3) := by decide +kernel
theorem dX4_refuse_4 : decode cX4_refuse 4 = .ok (.iload_n 1, 1) := by decide +kernel
theorem dX4_refuse_5 : decode cX4_refuse 5 = .ok (.bipush (-6), 2) := by decide +kernel
theorem dX4_refuse_7 : decode cX4_refuse 7 = .ok (.if_icmp .lt 14, 3) := by decide +kernel
theorem dX4_refuse_10 : decode cX4_refuse 10 = .ok (.aload_n 0, 1) := by decide +kernel
theorem dX4_refuse_11 : decode cX4_refuse 11 = .ok (.getfield 50, 3) := by decide +kernel
theorem dX4_refuse_14 : decode cX4_refuse 14 = .ok (.iload_n 1, 1) := by decide +kernel
theorem dX4_refuse_15 : decode cX4_refuse 15 = .ok (.ineg, 1) := by decide +kernel
theorem dX4_refuse_16 : decode cX4_refuse 16 = .ok (.dup2, 1) := by decide +kernel
theorem dX4_refuse_17 : decode cX4_refuse 17 = .ok (.iaload, 1) := by decide +kernel
theorem dX4_refuse_18 : decode cX4_refuse 18 = .ok (.iconst 1, 1) := by decide +kernel
theorem dX4_refuse_19 : decode cX4_refuse 19 = .ok (.iadd, 1) := by decide +kernel
theorem dX4_refuse_20 : decode cX4_refuse 20 = .ok (.iastore, 1) := by decide +kernel
theorem dX4_refuse_21 : decode cX4_refuse 21 = .ok (.iload_n 1, 1) := by decide +kernel
theorem dX4_refuse_22 : decode cX4_refuse 22 = .ok (.ireturn, 1) := by decide +kernel
theorem dX4_refuseLong_0 : decode cX4_refuseLong 0 = .ok (.ldc2_w 289, 3) := by decide +kernel
theorem dX4_refuseLong_3 : decode cX4_refuseLong 3 = .ok (.aload_n 0, 1) := by decide +kernel
theorem dX4_refuseLong_4 : decode cX4_refuseLong 4 = .ok (.iload_n 1, 1) := by decide +kernel
theorem dX4_refuseLong_5 : decode cX4_refuseLong 5 = .ok (.invokevirtual 63, 3) := by decide +kernel
theorem dX4_refuseLong_8 : decode cX4_refuseLong 8 = .ok (.i2l, 1) := by decide +kernel
theorem dX4_refuseLong_9 : decode cX4_refuseLong 9 = .ok (.lsub, 1) := by decide +kernel
theorem dX4_refuseLong_10 : decode cX4_refuseLong 10 = .ok (.lreturn, 1) := by decide +kernel
theorem dX4_refusalOfNumber_0 : decode cX4_refusalOfNumber 0 = .ok (.iload_n 0, 1) := by decide +kernel
theorem dX4_refusalOfNumber_1 : decode cX4_refusalOfNumber 1 = .ok (.iload_n 1, 1) := by decide +kernel
theorem dX4_refusalOfNumber_2 : decode cX4_refusalOfNumber 2 = .ok (.if_icmp .ge 6, 3) := by decide +kernel
theorem dX4_refusalOfNumber_5 : decode cX4_refusalOfNumber 5 = .ok (.bipush (-4), 2) := by decide +kernel
theorem dX4_refusalOfNumber_7 : decode cX4_refusalOfNumber 7 = .ok (.ireturn, 1) := by decide +kernel
theorem dX4_refusalOfNumber_8 : decode cX4_refusalOfNumber 8 = .ok (.iload_n 0, 1) := by decide +kernel
theorem dX4_refusalOfNumber_9 : decode cX4_refusalOfNumber 9 = .ok (.iload_n 2, 1) := by decide +kernel
theorem dX4_refusalOfNumber_10 : decode cX4_refusalOfNumber 10 = .ok (.if_icmp .le 8, 3) := by decide +kernel
theorem dX4_refusalOfNumber_13 : decode cX4_refusalOfNumber 13 = .ok (.bipush (-6), 2) := by decide +kernel
theorem dX4_refusalOfNumber_15 : decode cX4_refusalOfNumber 15 = .ok (.goto 4, 3) := by decide +kernel
theorem dX4_refusalOfNumber_18 : decode cX4_refusalOfNumber 18 = .ok (.iconst 0, 1) := by decide +kernel
theorem dX4_refusalOfNumber_19 : decode cX4_refusalOfNumber 19 = .ok (.ireturn, 1) := by decide +kernel
theorem dX4_isBelow_0 : decode cX4_isBelow 0 = .ok (.iload_n 0, 1) := by decide +kernel
theorem dX4_isBelow_1 : decode cX4_isBelow 1 = .ok (.ifCond .lt 12, 3) := by decide +kernel
theorem dX4_isBelow_4 : decode cX4_isBelow 4 = .ok (.iload_n 0, 1) := by decide +kernel
theorem dX4_isBelow_5 : decode cX4_isBelow 5 = .ok (.iload_n 1, 1) := by decide +kernel
theorem dX4_isBelow_6 : decode cX4_isBelow 6 = .ok (.if_icmp .ge 7, 3) := by decide +kernel
theorem dX4_isBelow_9 : decode cX4_isBelow 9 = .ok (.iconst 1, 1) := by decide +kernel
theorem dX4_isBelow_10 : decode cX4_isBelow 10 = .ok (.goto 4, 3) := by decide +kernel
theorem dX4_isBelow_13 : decode cX4_isBelow 13 = .ok (.iconst 0, 1) := by decide +kernel
theorem dX4_isBelow_14 : decode cX4_isBelow 14 = .ok (.ireturn, 1) := by decide +kernel
theorem dX4_isPlace_0 : decode cX4_isPlace 0 = .ok (.iload_n 0, 1) := by decide +kernel
theorem dX4_isPlace_1 : decode cX4_isPlace 1 = .ok (.ifCond .lt 13, 3) := by decide +kernel
theorem dX4_isPlace_4 : decode cX4_isPlace 4 = .ok (.iload_n 0, 1) := by decide +kernel
theorem dX4_isPlace_5 : decode cX4_isPlace 5 = .ok (.bipush 8, 2) := by decide +kernel
theorem dX4_isPlace_7 : decode cX4_isPlace 7 = .ok (.if_icmp .ge 7, 3) := by decide +kernel
theorem dX4_isPlace_10 : decode cX4_isPlace 10 = .ok (.iconst 1, 1) := by decide +kernel
theorem dX4_isPlace_11 : decode cX4_isPlace 11 = .ok (.goto 4, 3) := by decide +kernel
theorem dX4_isPlace_14 : decode cX4_isPlace 14 = .ok (.iconst 0, 1) := by decide +kernel
theorem dX4_isPlace_15 : decode cX4_isPlace 15 = .ok (.ireturn, 1) := by decide +kernel
theorem dX4_dayOrNone_0 : decode cX4_dayOrNone 0 = .ok (.iload_n 0, 1) := by decide +kernel
theorem dX4_dayOrNone_1 : decode cX4_dayOrNone 1 = .ok (.bipush 60, 2) := by decide +kernel
theorem dX4_dayOrNone_3 : decode cX4_dayOrNone 3 = .ok (.if_icmp .le 8, 3) := by decide +kernel
theorem dX4_dayOrNone_6 : decode cX4_dayOrNone 6 = .ok (.bipush (-9), 2) := by decide +kernel
theorem dX4_dayOrNone_8 : decode cX4_dayOrNone 8 = .ok (.goto 4, 3) := by decide +kernel
theorem dX4_dayOrNone_11 : decode cX4_dayOrNone 11 = .ok (.iload_n 0, 1) := by decide +kernel
theorem dX4_dayOrNone_12 : decode cX4_dayOrNone 12 = .ok (.ireturn, 1) := by decide +kernel
theorem dX4_thinkOf_0 : decode cX4_thinkOf 0 = .ok (.aload_n 0, 1) := by decide +kernel
theorem dX4_thinkOf_1 : decode cX4_thinkOf 1 = .ok (.getfield 12, 3) := by decide +kernel
theorem dX4_thinkOf_4 : decode cX4_thinkOf 4 = .ok (.iload_n 1, 1) := by decide +kernel
theorem dX4_thinkOf_5 : decode cX4_thinkOf 5 = .ok (.invokevirtual 85, 3) := by decide +kernel
theorem dX4_thinkOf_8 : decode cX4_thinkOf 8 = .ok (.ifCond .eq 19, 3) := by decide +kernel
theorem dX4_thinkOf_11 : decode cX4_thinkOf 11 = .ok (.aload_n 0, 1) := by decide +kernel
theorem dX4_thinkOf_12 : decode cX4_thinkOf 12 = .ok (.getfield 32, 3) := by decide +kernel
theorem dX4_thinkOf_15 : decode cX4_thinkOf 15 = .ok (.aload_n 0, 1) := by decide +kernel
theorem dX4_thinkOf_16 : decode cX4_thinkOf 16 = .ok (.getfield 12, 3) := by decide +kernel
theorem dX4_thinkOf_19 : decode cX4_thinkOf 19 = .ok (.getfield 89, 3) := by decide +kernel
theorem dX4_thinkOf_22 : decode cX4_thinkOf 22 = .ok (.iload_n 1, 1) := by decide +kernel
theorem dX4_thinkOf_23 : decode cX4_thinkOf 23 = .ok (.aaload, 1) := by decide +kernel
theorem dX4_thinkOf_24 : decode cX4_thinkOf 24 = .ok (.invokevirtual 188, 3) := by decide +kernel
theorem dX4_thinkOf_27 : decode cX4_thinkOf 27 = .ok (.return_, 1) := by decide +kernel
theorem dX4_comesNow_0 : decode cX4_comesNow 0 = .ok (.aload_n 0, 1) := by decide +kernel
theorem dX4_comesNow_1 : decode cX4_comesNow 1 = .ok (.iload_n 1, 1) := by decide +kernel
theorem dX4_comesNow_2 : decode cX4_comesNow 2 = .ok (.invokevirtual 167, 3) := by decide +kernel
theorem dX4_comesNow_5 : decode cX4_comesNow 5 = .ok (.aload_n 0, 1) := by decide +kernel
theorem dX4_comesNow_6 : decode cX4_comesNow 6 = .ok (.getfield 32, 3) := by decide +kernel
theorem dX4_comesNow_9 : decode cX4_comesNow 9 = .ok (.aload_n 0, 1) := by decide +kernel
theorem dX4_comesNow_10 : decode cX4_comesNow 10 = .ok (.getfield 12, 3) := by decide +kernel
theorem dX4_comesNow_13 : decode cX4_comesNow 13 = .ok (.getfield 122, 3) := by decide +kernel
theorem dX4_comesNow_16 : decode cX4_comesNow 16 = .ok (.iload_n 2, 1) := by decide +kernel
theorem dX4_comesNow_17 : decode cX4_comesNow 17 = .ok (.invokevirtual 197, 3) := by decide +kernel
theorem dX4_comesNow_20 : decode cX4_comesNow 20 = .ok (.ireturn, 1) := by decide +kernel
theorem dX4_comesWithChange_0 : decode cX4_comesWithChange 0 = .ok (.aload_n 0, 1) := by decide +kernel
theorem dX4_comesWithChange_1 : decode cX4_comesWithChange 1 = .ok (.getfield 25, 3) := by decide +kernel
theorem dX4_comesWithChange_4 : decode cX4_comesWithChange 4 = .ok (.aload_n 0, 1) := by decide +kernel
theorem dX4_comesWithChange_5 : decode cX4_comesWithChange 5 = .ok (.getfield 12, 3) := by decide +kernel
theorem dX4_comesWithChange_8 : decode cX4_comesWithChange 8 = .ok (.getfield 122, 3) := by decide +kernel
theorem dX4_comesWithChange_11 : decode cX4_comesWithChange 11 = .ok (.invokevirtual 291, 3) := by decide +kernel
theorem dX4_comesWithChange_14 : decode cX4_comesWithChange 14 = .ok (.aload_n 0, 1) := by decide +kernel
theorem dX4_comesWithChange_15 : decode cX4_comesWithChange 15 = .ok (.getfield 25, 3) := by decide +kernel
theorem dX4_comesWithChange_18 : decode cX4_comesWithChange 18 = .ok (.iload_n 3, 1) := by decide +kernel
theorem dX4_comesWithChange_19 : decode cX4_comesWithChange 19 = .ok (.iload 4, 2) := by decide +kernel
theorem dX4_comesWithChange_21 : decode cX4_comesWithChange 21 = .ok (.invokevirtual 293, 3) := by decide +kernel
theorem dX4_comesWithChange_24 : decode cX4_comesWithChange 24 = .ok (.aload_n 0, 1) := by decide +kernel
theorem dX4_comesWithChange_25 : decode cX4_comesWithChange 25 = .ok (.iload_n 1, 1) := by decide +kernel
theorem dX4_comesWithChange_26 : decode cX4_comesWithChange 26 = .ok (.invokevirtual 167, 3) := by decide +kernel
theorem dX4_comesWithChange_29 : decode cX4_comesWithChange 29 = .ok (.aload_n 0, 1) := by decide +kernel
theorem dX4_comesWithChange_30 : decode cX4_comesWithChange 30 = .ok (.getfield 32, 3) := by decide +kernel
theorem dX4_comesWithChange_33 : decode cX4_comesWithChange 33 = .ok (.aload_n 0, 1) := by decide +kernel
theorem dX4_comesWithChange_34 : decode cX4_comesWithChange 34 = .ok (.getfield 25, 3) := by decide +kernel
theorem dX4_comesWithChange_37 : decode cX4_comesWithChange 37 = .ok (.iload_n 2, 1) := by decide +kernel
theorem dX4_comesWithChange_38 : decode cX4_comesWithChange 38 = .ok (.invokevirtual 197, 3) := by decide +kernel
theorem dX4_comesWithChange_41 : decode cX4_comesWithChange 41 = .ok (.ireturn, 1) := by decide +kernel
theorem dX4_mindDaysWhereHeSays_0 : decode cX4_mindDaysWhereHeSays 0 = .ok (.lconst 0, 1) := by decide +kernel
theorem dX4_mindDaysWhereHeSays_1 : decode cX4_mindDaysWhereHeSays 1 = .ok (.lstore_n 1, 1) := by decide +kernel
theorem dX4_mindDaysWhereHeSays_2 : decode cX4_mindDaysWhereHeSays 2 = .ok (.iconst 0, 1) := by decide +kernel
theorem dX4_mindDaysWhereHeSays_3 : decode cX4_mindDaysWhereHeSays 3 = .ok (.istore_n 3, 1) := by decide +kernel
theorem dX4_mindDaysWhereHeSays_4 : decode cX4_mindDaysWhereHeSays 4 = .ok (.iload_n 3, 1) := by decide +kernel
theorem dX4_mindDaysWhereHeSays_5 : decode cX4_mindDaysWhereHeSays 5 = .ok (.bipush 60, 2) := by decide +kernel
theorem dX4_mindDaysWhereHeSays_7 : decode cX4_mindDaysWhereHeSays 7 = .ok (.if_icmp .gt 39, 3) := by decide +kernel
theorem dX4_mindDaysWhereHeSays_10 : decode cX4_mindDaysWhereHeSays 10 = .ok (.aload_n 0, 1) := by decide +kernel
theorem dX4_mindDaysWhereHeSays_11 : decode cX4_mindDaysWhereHeSays 11 = .ok (.getfield 32, 3) := by decide +kernel
theorem dX4_mindDaysWhereHeSays_14 : decode cX4_mindDaysWhereHeSays 14 = .ok (.invokevirtual 267, 3) := by decide +kernel
theorem dX4_mindDaysWhereHeSays_17 : decode cX4_mindDaysWhereHeSays 17 = .ok (.ifCond .eq 9, 3) := by decide +kernel
theorem dX4_mindDaysWhereHeSays_20 : decode cX4_mindDaysWhereHeSays 20 = .ok (.lload_n 1, 1) := by decide +kernel
theorem dX4_mindDaysWhereHeSays_21 : decode cX4_mindDaysWhereHeSays 21 = .ok (.lconst 1, 1) := by decide +kernel
theorem dX4_mindDaysWhereHeSays_22 : decode cX4_mindDaysWhereHeSays 22 = .ok (.iload_n 3, 1) := by decide +kernel
theorem dX4_mindDaysWhereHeSays_23 : decode cX4_mindDaysWhereHeSays 23 = .ok (.lshl, 1) := by decide +kernel
theorem dX4_mindDaysWhereHeSays_24 : decode cX4_mindDaysWhereHeSays 24 = .ok (.lor, 1) := by decide +kernel
theorem dX4_mindDaysWhereHeSays_25 : decode cX4_mindDaysWhereHeSays 25 = .ok (.lstore_n 1, 1) := by decide +kernel
theorem dX4_mindDaysWhereHeSays_26 : decode cX4_mindDaysWhereHeSays 26 = .ok (.aload_n 0, 1) := by decide +kernel
theorem dX4_mindDaysWhereHeSays_27 : decode cX4_mindDaysWhereHeSays 27 = .ok (.getfield 32, 3) := by decide +kernel
theorem dX4_mindDaysWhereHeSays_30 : decode cX4_mindDaysWhereHeSays 30 = .ok (.aload_n 0, 1) := by decide +kernel
theorem dX4_mindDaysWhereHeSays_31 : decode cX4_mindDaysWhereHeSays 31 = .ok (.getfield 12, 3) := by decide +kernel
theorem dX4_mindDaysWhereHeSays_34 : decode cX4_mindDaysWhereHeSays 34 = .ok (.getfield 122, 3) := by decide +kernel
theorem dX4_mindDaysWhereHeSays_37 : decode cX4_mindDaysWhereHeSays 37 = .ok (.invokevirtual 184, 3) := by decide +kernel
theorem dX4_mindDaysWhereHeSays_40 : decode cX4_mindDaysWhereHeSays 40 = .ok (.iinc 3 1, 3) := by decide +kernel
theorem dX4_mindDaysWhereHeSays_43 : decode cX4_mindDaysWhereHeSays 43 = .ok (.goto (-39), 3) := by decide +kernel
theorem dX4_mindDaysWhereHeSays_46 : decode cX4_mindDaysWhereHeSays 46 = .ok (.lload_n 1, 1) := by decide +kernel
theorem dX4_mindDaysWhereHeSays_47 : decode cX4_mindDaysWhereHeSays 47 = .ok (.lreturn, 1) := by decide +kernel
theorem dX4_noteGuests_0 : decode cX4_noteGuests 0 = .ok (.iconst 0, 1) := by decide +kernel
theorem dX4_noteGuests_1 : decode cX4_noteGuests 1 = .ok (.istore_n 2, 1) := by decide +kernel
theorem dX4_noteGuests_2 : decode cX4_noteGuests 2 = .ok (.iload_n 2, 1) := by decide +kernel
theorem dX4_noteGuests_3 : decode cX4_noteGuests 3 = .ok (.bipush 8, 2) := by decide +kernel
theorem dX4_noteGuests_5 : decode cX4_noteGuests 5 = .ok (.if_icmp .ge 16, 3) := by decide +kernel
theorem dX4_noteGuests_8 : decode cX4_noteGuests 8 = .ok (.aload_n 0, 1) := by decide +kernel
theorem dX4_noteGuests_9 : decode cX4_noteGuests 9 = .ok (.getfield 53, 3) := by decide +kernel
theorem dX4_noteGuests_12 : decode cX4_noteGuests 12 = .ok (.iload_n 2, 1) := by decide +kernel
theorem dX4_noteGuests_13 : decode cX4_noteGuests 13 = .ok (.iconst 0, 1) := by decide +kernel
theorem dX4_noteGuests_14 : decode cX4_noteGuests 14 = .ok (.iastore, 1) := by decide +kernel
theorem dX4_noteGuests_15 : decode cX4_noteGuests 15 = .ok (.iinc 2 1, 3) := by decide +kernel
theorem dX4_noteGuests_18 : decode cX4_noteGuests 18 = .ok (.goto (-16), 3) := by decide +kernel
theorem dX4_noteGuests_21 : decode cX4_noteGuests 21 = .ok (.iconst 0, 1) := by decide +kernel
theorem dX4_noteGuests_22 : decode cX4_noteGuests 22 = .ok (.istore_n 2, 1) := by decide +kernel
theorem dX4_noteGuests_23 : decode cX4_noteGuests 23 = .ok (.iload_n 2, 1) := by decide +kernel
theorem dX4_noteGuests_24 : decode cX4_noteGuests 24 = .ok (.aload_n 0, 1) := by decide +kernel
theorem dX4_noteGuests_25 : decode cX4_noteGuests 25 = .ok (.getfield 12, 3) := by decide +kernel
theorem dX4_noteGuests_28 : decode cX4_noteGuests 28 = .ok (.getfield 181, 3) := by decide +kernel
theorem dX4_noteGuests_31 : decode cX4_noteGuests 31 = .ok (.if_icmp .ge 72, 3) := by decide +kernel
theorem dX4_noteGuests_34 : decode cX4_noteGuests 34 = .ok (.aload_n 0, 1) := by decide +kernel
theorem dX4_noteGuests_35 : decode cX4_noteGuests 35 = .ok (.iload_n 2, 1) := by decide +kernel
theorem dX4_noteGuests_36 : decode cX4_noteGuests 36 = .ok (.invokevirtual 167, 3) := by decide +kernel
theorem dX4_noteGuests_39 : decode cX4_noteGuests 39 = .ok (.iconst 0, 1) := by decide +kernel
theorem dX4_noteGuests_40 : decode cX4_noteGuests 40 = .ok (.istore_n 3, 1) := by decide +kernel
theorem dX4_noteGuests_41 : decode cX4_noteGuests 41 = .ok (.iload_n 3, 1) := by decide +kernel
theorem dX4_noteGuests_42 : decode cX4_noteGuests 42 = .ok (.iload_n 1, 1) := by decide +kernel
theorem dX4_noteGuests_43 : decode cX4_noteGuests 43 = .ok (.if_icmp .gt 54, 3) := by decide +kernel
theorem dX4_noteGuests_46 : decode cX4_noteGuests 46 = .ok (.aload_n 0, 1) := by decide +kernel
theorem dX4_noteGuests_47 : decode cX4_noteGuests 47 = .ok (.getfield 32, 3) := by decide +kernel
theorem dX4_noteGuests_50 : decode cX4_noteGuests 50 = .ok (.getfield 106, 3) := by decide +kernel
theorem dX4_noteGuests_53 : decode cX4_noteGuests 53 = .ok (.invokestatic 119, 3) := by decide +kernel
theorem dX4_noteGuests_56 : decode cX4_noteGuests 56 = .ok (.ifCond .eq 21, 3) := by decide +kernel
theorem dX4_noteGuests_59 : decode cX4_noteGuests 59 = .ok (.aload_n 0, 1) := by decide +kernel
theorem dX4_noteGuests_60 : decode cX4_noteGuests 60 = .ok (.getfield 53, 3) := by decide +kernel
theorem dX4_noteGuests_63 : decode cX4_noteGuests 63 = .ok (.aload_n 0, 1) := by decide +kernel
theorem dX4_noteGuests_64 : decode cX4_noteGuests 64 = .ok (.getfield 32, 3) := by decide +kernel
theorem dX4_noteGuests_67 : decode cX4_noteGuests 67 = .ok (.getfield 106, 3) := by decide +kernel
theorem dX4_noteGuests_70 : decode cX4_noteGuests 70 = .ok (.dup2, 1) := by decide +kernel
theorem dX4_noteGuests_71 : decode cX4_noteGuests 71 = .ok (.iaload, 1) := by decide +kernel
theorem dX4_noteGuests_72 : decode cX4_noteGuests 72 = .ok (.iconst 1, 1) := by decide +kernel
theorem dX4_noteGuests_73 : decode cX4_noteGuests 73 = .ok (.iload_n 2, 1) := by decide +kernel
theorem dX4_noteGuests_74 : decode cX4_noteGuests 74 = .ok (.ishl, 1) := by decide +kernel
theorem dX4_noteGuests_75 : decode cX4_noteGuests 75 = .ok (.ior, 1) := by decide +kernel
theorem dX4_noteGuests_76 : decode cX4_noteGuests 76 = .ok (.iastore, 1) := by decide +kernel
theorem dX4_noteGuests_77 : decode cX4_noteGuests 77 = .ok (.aload_n 0, 1) := by decide +kernel
theorem dX4_noteGuests_78 : decode cX4_noteGuests 78 = .ok (.getfield 32, 3) := by decide +kernel
theorem dX4_noteGuests_81 : decode cX4_noteGuests 81 = .ok (.aload_n 0, 1) := by decide +kernel
theorem dX4_noteGuests_82 : decode cX4_noteGuests 82 = .ok (.getfield 12, 3) := by decide +kernel
theorem dX4_noteGuests_85 : decode cX4_noteGuests 85 = .ok (.getfield 122, 3) := by decide +kernel
theorem dX4_noteGuests_88 : decode cX4_noteGuests 88 = .ok (.invokevirtual 184, 3) := by decide +kernel
theorem dX4_noteGuests_91 : decode cX4_noteGuests 91 = .ok (.iinc 3 1, 3) := by decide +kernel
theorem dX4_noteGuests_94 : decode cX4_noteGuests 94 = .ok (.goto (-53), 3) := by decide +kernel
theorem dX4_noteGuests_97 : decode cX4_noteGuests 97 = .ok (.iinc 2 1, 3) := by decide +kernel
theorem dX4_noteGuests_100 : decode cX4_noteGuests 100 = .ok (.goto (-77), 3) := by decide +kernel
theorem dX4_noteGuests_103 : decode cX4_noteGuests 103 = .ok (.return_, 1) := by decide +kernel
theorem dX4_totalWithBare_0 : decode cX4_totalWithBare 0 = .ok (.iconst 0, 1) := by decide +kernel
theorem dX4_totalWithBare_1 : decode cX4_totalWithBare 1 = .ok (.istore_n 3, 1) := by decide +kernel
theorem dX4_totalWithBare_2 : decode cX4_totalWithBare 2 = .ok (.iconst 0, 1) := by decide +kernel
theorem dX4_totalWithBare_3 : decode cX4_totalWithBare 3 = .ok (.istore 4, 2) := by decide +kernel
theorem dX4_totalWithBare_5 : decode cX4_totalWithBare 5 = .ok (.iload 4, 2) := by decide +kernel
theorem dX4_totalWithBare_7 : decode cX4_totalWithBare 7 = .ok (.aload_n 0, 1) := by decide +kernel
theorem dX4_totalWithBare_8 : decode cX4_totalWithBare 8 = .ok (.getfield 12, 3) := by decide +kernel
theorem dX4_totalWithBare_11 : decode cX4_totalWithBare 11 = .ok (.getfield 181, 3) := by decide +kernel
theorem dX4_totalWithBare_14 : decode cX4_totalWithBare 14 = .ok (.if_icmp .ge 61, 3) := by decide +kernel
theorem dX4_totalWithBare_17 : decode cX4_totalWithBare 17 = .ok (.aload_n 0, 1) := by decide +kernel
theorem dX4_totalWithBare_18 : decode cX4_totalWithBare 18 = .ok (.iload 4, 2) := by decide +kernel
theorem dX4_totalWithBare_20 : decode cX4_totalWithBare 20 = .ok (.invokevirtual 167, 3) := by decide +kernel
theorem dX4_totalWithBare_23 : decode cX4_totalWithBare 23 = .ok (.iload 4, 2) := by decide +kernel
theorem dX4_totalWithBare_25 : decode cX4_totalWithBare 25 = .ok (.iload_n 1, 1) := by decide +kernel
theorem dX4_totalWithBare_26 : decode cX4_totalWithBare 26 = .ok (.if_icmp .ne 11, 3) := by decide +kernel
theorem dX4_totalWithBare_29 : decode cX4_totalWithBare 29 = .ok (.aload_n 0, 1) := by decide +kernel
theorem dX4_totalWithBare_30 : decode cX4_totalWithBare 30 = .ok (.getfield 32, 3) := by decide +kernel
theorem dX4_totalWithBare_33 : decode cX4_totalWithBare 33 = .ok (.iconst 0, 1) := by decide +kernel
theorem dX4_totalWithBare_34 : decode cX4_totalWithBare 34 = .ok (.putfield 109, 3) := by decide +kernel
theorem dX4_totalWithBare_37 : decode cX4_totalWithBare 37 = .ok (.aload_n 0, 1) := by decide +kernel
theorem dX4_totalWithBare_38 : decode cX4_totalWithBare 38 = .ok (.getfield 32, 3) := by decide +kernel
theorem dX4_totalWithBare_41 : decode cX4_totalWithBare 41 = .ok (.aload_n 0, 1) := by decide +kernel
theorem dX4_totalWithBare_42 : decode cX4_totalWithBare 42 = .ok (.getfield 12, 3) := by decide +kernel
theorem dX4_totalWithBare_45 : decode cX4_totalWithBare 45 = .ok (.getfield 122, 3) := by decide +kernel
theorem dX4_totalWithBare_48 : decode cX4_totalWithBare 48 = .ok (.iload_n 2, 1) := by decide +kernel
theorem dX4_totalWithBare_49 : decode cX4_totalWithBare 49 = .ok (.invokevirtual 171, 3) := by decide +kernel
theorem dX4_totalWithBare_52 : decode cX4_totalWithBare 52 = .ok (.iload_n 3, 1) := by decide +kernel
theorem dX4_totalWithBare_53 : decode cX4_totalWithBare 53 = .ok (.aload_n 0, 1) := by decide +kernel
theorem dX4_totalWithBare_54 : decode cX4_totalWithBare 54 = .ok (.getfield 32, 3) := by decide +kernel
theorem dX4_totalWithBare_57 : decode cX4_totalWithBare 57 = .ok (.aload_n 0, 1) := by decide +kernel
theorem dX4_totalWithBare_58 : decode cX4_totalWithBare 58 = .ok (.getfield 12, 3) := by decide +kernel
theorem dX4_totalWithBare_61 : decode cX4_totalWithBare 61 = .ok (.getfield 122, 3) := by decide +kernel
theorem dX4_totalWithBare_64 : decode cX4_totalWithBare 64 = .ok (.invokevirtual 263, 3) := by decide +kernel
theorem dX4_totalWithBare_67 : decode cX4_totalWithBare 67 = .ok (.iadd, 1) := by decide +kernel
theorem dX4_totalWithBare_68 : decode cX4_totalWithBare 68 = .ok (.istore_n 3, 1) := by decide +kernel
theorem dX4_totalWithBare_69 : decode cX4_totalWithBare 69 = .ok (.iinc 4 1, 3) := by decide +kernel
theorem dX4_totalWithBare_72 : decode cX4_totalWithBare 72 = .ok (.goto (-67), 3) := by decide +kernel
theorem dX4_totalWithBare_75 : decode cX4_totalWithBare 75 = .ok (.iload_n 3, 1) := by decide +kernel
theorem dX4_totalWithBare_76 : decode cX4_totalWithBare 76 = .ok (.ireturn, 1) := by decide +kernel
theorem dX4_costOfChoice_0 : decode cX4_costOfChoice 0 = .ok (.aload_n 0, 1) := by decide +kernel
theorem dX4_costOfChoice_1 : decode cX4_costOfChoice 1 = .ok (.iload_n 1, 1) := by decide +kernel
theorem dX4_costOfChoice_2 : decode cX4_costOfChoice 2 = .ok (.invokevirtual 167, 3) := by decide +kernel
theorem dX4_costOfChoice_5 : decode cX4_costOfChoice 5 = .ok (.iload_n 2, 1) := by decide +kernel
theorem dX4_costOfChoice_6 : decode cX4_costOfChoice 6 = .ok (.iconst 1, 1) := by decide +kernel
theorem dX4_costOfChoice_7 : decode cX4_costOfChoice 7 = .ok (.if_icmp .ne 10, 3) := by decide +kernel
theorem dX4_costOfChoice_10 : decode cX4_costOfChoice 10 = .ok (.aload_n 0, 1) := by decide +kernel
theorem dX4_costOfChoice_11 : decode cX4_costOfChoice 11 = .ok (.getfield 32, 3) := by decide +kernel
theorem dX4_costOfChoice_14 : decode cX4_costOfChoice 14 = .ok (.invokevirtual 297, 3) := by decide +kernel
theorem dX4_costOfChoice_17 : decode cX4_costOfChoice 17 = .ok (.aload_n 0, 1) := by decide +kernel
theorem dX4_costOfChoice_18 : decode cX4_costOfChoice 18 = .ok (.getfield 32, 3) := by decide +kernel
theorem dX4_costOfChoice_21 : decode cX4_costOfChoice 21 = .ok (.aload_n 0, 1) := by decide +kernel
theorem dX4_costOfChoice_22 : decode cX4_costOfChoice 22 = .ok (.getfield 12, 3) := by decide +kernel
theorem dX4_costOfChoice_25 : decode cX4_costOfChoice 25 = .ok (.getfield 122, 3) := by decide +kernel
theorem dX4_costOfChoice_28 : decode cX4_costOfChoice 28 = .ok (.iload_n 3, 1) := by decide +kernel
theorem dX4_costOfChoice_29 : decode cX4_costOfChoice 29 = .ok (.invokevirtual 171, 3) := by decide +kernel
theorem dX4_costOfChoice_32 : decode cX4_costOfChoice 32 = .ok (.aload_n 0, 1) := by decide +kernel
theorem dX4_costOfChoice_33 : decode cX4_costOfChoice 33 = .ok (.getfield 32, 3) := by decide +kernel
theorem dX4_costOfChoice_36 : decode cX4_costOfChoice 36 = .ok (.aload_n 0, 1) := by decide +kernel
theorem dX4_costOfChoice_37 : decode cX4_costOfChoice 37 = .ok (.getfield 12, 3) := by decide +kernel
theorem dX4_costOfChoice_40 : decode cX4_costOfChoice 40 = .ok (.getfield 122, 3) := by decide +kernel
theorem dX4_costOfChoice_43 : decode cX4_costOfChoice 43 = .ok (.invokevirtual 263, 3) := by decide +kernel
theorem dX4_costOfChoice_46 : decode cX4_costOfChoice 46 = .ok (.iload_n 2, 1) := by decide +kernel
theorem dX4_costOfChoice_47 : decode cX4_costOfChoice 47 = .ok (.iadd, 1) := by decide +kernel
theorem dX4_costOfChoice_48 : decode cX4_costOfChoice 48 = .ok (.ireturn, 1) := by decide +kernel
theorem dX4_startChances_0 : decode cX4_startChances 0 = .ok (.aload_n 0, 1) := by decide +kernel
theorem dX4_startChances_1 : decode cX4_startChances 1 = .ok (.iload_n 1, 1) := by decide +kernel
theorem dX4_startChances_2 : decode cX4_startChances 2 = .ok (.invokevirtual 167, 3) := by decide +kernel
theorem dX4_startChances_5 : decode cX4_startChances 5 = .ok (.iconst 0, 1) := by decide +kernel
theorem dX4_startChances_6 : decode cX4_startChances 6 = .ok (.istore_n 2, 1) := by decide +kernel
theorem dX4_startChances_7 : decode cX4_startChances 7 = .ok (.iload_n 2, 1) := by decide +kernel
theorem dX4_startChances_8 : decode cX4_startChances 8 = .ok (.bipush 8, 2) := by decide +kernel
theorem dX4_startChances_10 : decode cX4_startChances 10 = .ok (.if_icmp .ge 31, 3) := by decide +kernel
theorem dX4_startChances_13 : decode cX4_startChances 13 = .ok (.aload_n 0, 1) := by decide +kernel
theorem dX4_startChances_14 : decode cX4_startChances 14 = .ok (.getfield 56, 3) := by decide +kernel
theorem dX4_startChances_17 : decode cX4_startChances 17 = .ok (.iload_n 2, 1) := by decide +kernel
theorem dX4_startChances_18 : decode cX4_startChances 18 = .ok (.iload_n 2, 1) := by decide +kernel
theorem dX4_startChances_19 : decode cX4_startChances 19 = .ok (.aload_n 0, 1) := by decide +kernel
theorem dX4_startChances_20 : decode cX4_startChances 20 = .ok (.getfield 32, 3) := by decide +kernel
theorem dX4_startChances_23 : decode cX4_startChances 23 = .ok (.getfield 106, 3) := by decide +kernel
theorem dX4_startChances_26 : decode cX4_startChances 26 = .ok (.if_icmp .ne 7, 3) := by decide +kernel
theorem dX4_startChances_29 : decode cX4_startChances 29 = .ok (.lconst 1, 1) := by decide +kernel
theorem dX4_startChances_30 : decode cX4_startChances 30 = .ok (.goto 4, 3) := by decide +kernel
theorem dX4_startChances_33 : decode cX4_startChances 33 = .ok (.lconst 0, 1) := by decide +kernel
theorem dX4_startChances_34 : decode cX4_startChances 34 = .ok (.lastore, 1) := by decide +kernel
theorem dX4_startChances_35 : decode cX4_startChances 35 = .ok (.iinc 2 1, 3) := by decide +kernel
theorem dX4_startChances_38 : decode cX4_startChances 38 = .ok (.goto (-31), 3) := by decide +kernel
theorem dX4_startChances_41 : decode cX4_startChances 41 = .ok (.return_, 1) := by decide +kernel
theorem dX4_spreadChances_0 : decode cX4_spreadChances 0 = .ok (.iconst 0, 1) := by decide +kernel
theorem dX4_spreadChances_1 : decode cX4_spreadChances 1 = .ok (.istore_n 2, 1) := by decide +kernel
theorem dX4_spreadChances_2 : decode cX4_spreadChances 2 = .ok (.iload_n 2, 1) := by decide +kernel
theorem dX4_spreadChances_3 : decode cX4_spreadChances 3 = .ok (.bipush 8, 2) := by decide +kernel
theorem dX4_spreadChances_5 : decode cX4_spreadChances 5 = .ok (.if_icmp .ge 21, 3) := by decide +kernel
theorem dX4_spreadChances_8 : decode cX4_spreadChances 8 = .ok (.aload_n 0, 1) := by decide +kernel
theorem dX4_spreadChances_9 : decode cX4_spreadChances 9 = .ok (.getfield 60, 3) := by decide +kernel
theorem dX4_spreadChances_12 : decode cX4_spreadChances 12 = .ok (.iload_n 2, 1) := by decide +kernel
theorem dX4_spreadChances_13 : decode cX4_spreadChances 13 = .ok (.aload_n 0, 1) := by decide +kernel
theorem dX4_spreadChances_14 : decode cX4_spreadChances 14 = .ok (.getfield 56, 3) := by decide +kernel
theorem dX4_spreadChances_17 : decode cX4_spreadChances 17 = .ok (.iload_n 2, 1) := by decide +kernel
theorem dX4_spreadChances_18 : decode cX4_spreadChances 18 = .ok (.laload, 1) := by decide +kernel
theorem dX4_spreadChances_19 : decode cX4_spreadChances 19 = .ok (.lastore, 1) := by decide +kernel
theorem dX4_spreadChances_20 : decode cX4_spreadChances 20 = .ok (.iinc 2 1, 3) := by decide +kernel
theorem dX4_spreadChances_23 : decode cX4_spreadChances 23 = .ok (.goto (-21), 3) := by decide +kernel
theorem dX4_spreadChances_26 : decode cX4_spreadChances 26 = .ok (.iconst 0, 1) := by decide +kernel
theorem dX4_spreadChances_27 : decode cX4_spreadChances 27 = .ok (.istore_n 2, 1) := by decide +kernel
theorem dX4_spreadChances_28 : decode cX4_spreadChances 28 = .ok (.iload_n 2, 1) := by decide +kernel
theorem dX4_spreadChances_29 : decode cX4_spreadChances 29 = .ok (.bipush 8, 2) := by decide +kernel
theorem dX4_spreadChances_31 : decode cX4_spreadChances 31 = .ok (.if_icmp .ge 52, 3) := by decide +kernel
theorem dX4_spreadChances_34 : decode cX4_spreadChances 34 = .ok (.aload_n 0, 1) := by decide +kernel
theorem dX4_spreadChances_35 : decode cX4_spreadChances 35 = .ok (.getfield 32, 3) := by decide +kernel
theorem dX4_spreadChances_38 : decode cX4_spreadChances 38 = .ok (.aload_n 0, 1) := by decide +kernel
theorem dX4_spreadChances_39 : decode cX4_spreadChances 39 = .ok (.getfield 12, 3) := by decide +kernel
theorem dX4_spreadChances_42 : decode cX4_spreadChances 42 = .ok (.getfield 122, 3) := by decide +kernel
theorem dX4_spreadChances_45 : decode cX4_spreadChances 45 = .ok (.iload_n 2, 1) := by decide +kernel
theorem dX4_spreadChances_46 : decode cX4_spreadChances 46 = .ok (.invokevirtual 299, 3) := by decide +kernel
theorem dX4_spreadChances_49 : decode cX4_spreadChances 49 = .ok (.istore_n 3, 1) := by decide +kernel
theorem dX4_spreadChances_50 : decode cX4_spreadChances 50 = .ok (.iload_n 3, 1) := by decide +kernel
theorem dX4_spreadChances_51 : decode cX4_spreadChances 51 = .ok (.invokestatic 119, 3) := by decide +kernel
theorem dX4_spreadChances_54 : decode cX4_spreadChances 54 = .ok (.ifCond .eq 23, 3) := by decide +kernel
theorem dX4_spreadChances_57 : decode cX4_spreadChances 57 = .ok (.aload_n 0, 1) := by decide +kernel
theorem dX4_spreadChances_58 : decode cX4_spreadChances 58 = .ok (.getfield 60, 3) := by decide +kernel
theorem dX4_spreadChances_61 : decode cX4_spreadChances 61 = .ok (.iload_n 3, 1) := by decide +kernel
theorem dX4_spreadChances_62 : decode cX4_spreadChances 62 = .ok (.dup2, 1) := by decide +kernel
theorem dX4_spreadChances_63 : decode cX4_spreadChances 63 = .ok (.laload, 1) := by decide +kernel
theorem dX4_spreadChances_64 : decode cX4_spreadChances 64 = .ok (.aload_n 0, 1) := by decide +kernel
theorem dX4_spreadChances_65 : decode cX4_spreadChances 65 = .ok (.getfield 56, 3) := by decide +kernel
theorem dX4_spreadChances_68 : decode cX4_spreadChances 68 = .ok (.iload_n 2, 1) := by decide +kernel
theorem dX4_spreadChances_69 : decode cX4_spreadChances 69 = .ok (.laload, 1) := by decide +kernel
theorem dX4_spreadChances_70 : decode cX4_spreadChances 70 = .ok (.iload_n 1, 1) := by decide +kernel
theorem dX4_spreadChances_71 : decode cX4_spreadChances 71 = .ok (.iconst 1, 1) := by decide +kernel
theorem dX4_spreadChances_72 : decode cX4_spreadChances 72 = .ok (.isub, 1) := by decide +kernel
theorem dX4_spreadChances_73 : decode cX4_spreadChances 73 = .ok (.i2l, 1) := by decide +kernel
theorem dX4_spreadChances_74 : decode cX4_spreadChances 74 = .ok (.lmul, 1) := by decide +kernel
theorem dX4_spreadChances_75 : decode cX4_spreadChances 75 = .ok (.ladd, 1) := by decide +kernel
theorem dX4_spreadChances_76 : decode cX4_spreadChances 76 = .ok (.lastore, 1) := by decide +kernel
theorem dX4_spreadChances_77 : decode cX4_spreadChances 77 = .ok (.iinc 2 1, 3) := by decide +kernel
theorem dX4_spreadChances_80 : decode cX4_spreadChances 80 = .ok (.goto (-52), 3) := by decide +kernel
theorem dX4_spreadChances_83 : decode cX4_spreadChances 83 = .ok (.iconst 0, 1) := by decide +kernel
theorem dX4_spreadChances_84 : decode cX4_spreadChances 84 = .ok (.istore_n 2, 1) := by decide +kernel
theorem dX4_spreadChances_85 : decode cX4_spreadChances 85 = .ok (.iload_n 2, 1) := by decide +kernel
theorem dX4_spreadChances_86 : decode cX4_spreadChances 86 = .ok (.bipush 8, 2) := by decide +kernel
theorem dX4_spreadChances_88 : decode cX4_spreadChances 88 = .ok (.if_icmp .ge 21, 3) := by decide +kernel
theorem dX4_spreadChances_91 : decode cX4_spreadChances 91 = .ok (.aload_n 0, 1) := by decide +kernel
theorem dX4_spreadChances_92 : decode cX4_spreadChances 92 = .ok (.getfield 56, 3) := by decide +kernel
theorem dX4_spreadChances_95 : decode cX4_spreadChances 95 = .ok (.iload_n 2, 1) := by decide +kernel
theorem dX4_spreadChances_96 : decode cX4_spreadChances 96 = .ok (.aload_n 0, 1) := by decide +kernel
theorem dX4_spreadChances_97 : decode cX4_spreadChances 97 = .ok (.getfield 60, 3) := by decide +kernel
theorem dX4_spreadChances_100 : decode cX4_spreadChances 100 = .ok (.iload_n 2, 1) := by decide +kernel
theorem dX4_spreadChances_101 : decode cX4_spreadChances 101 = .ok (.laload, 1) := by decide +kernel
theorem dX4_spreadChances_102 : decode cX4_spreadChances 102 = .ok (.lastore, 1) := by decide +kernel
theorem dX4_spreadChances_103 : decode cX4_spreadChances 103 = .ok (.iinc 2 1, 3) := by decide +kernel
theorem dX4_spreadChances_106 : decode cX4_spreadChances 106 = .ok (.goto (-21), 3) := by decide +kernel
theorem dX4_spreadChances_109 : decode cX4_spreadChances 109 = .ok (.return_, 1) := by decide +kernel
theorem dX4_mindFollowsRow_0 : decode cX4_mindFollowsRow 0 = .ok (.iconst 0, 1) := by decide +kernel
theorem dX4_mindFollowsRow_1 : decode cX4_mindFollowsRow 1 = .ok (.istore_n 1, 1) := by decide +kernel
theorem dX4_mindFollowsRow_2 : decode cX4_mindFollowsRow 2 = .ok (.iload_n 1, 1) := by decide +kernel
theorem dX4_mindFollowsRow_3 : decode cX4_mindFollowsRow 3 = .ok (.aload_n 0, 1) := by decide +kernel
theorem dX4_mindFollowsRow_4 : decode cX4_mindFollowsRow 4 = .ok (.getfield 251, 3) := by decide +kernel
theorem dX4_mindFollowsRow_7 : decode cX4_mindFollowsRow 7 = .ok (.if_icmp .ge 41, 3) := by decide +kernel
theorem dX4_mindFollowsRow_10 : decode cX4_mindFollowsRow 10 = .ok (.aload_n 0, 1) := by decide +kernel
theorem dX4_mindFollowsRow_11 : decode cX4_mindFollowsRow 11 = .ok (.getfield 46, 3) := by decide +kernel
theorem dX4_mindFollowsRow_14 : decode cX4_mindFollowsRow 14 = .ok (.iload_n 1, 1) := by decide +kernel
theorem dX4_mindFollowsRow_15 : decode cX4_mindFollowsRow 15 = .ok (.iaload, 1) := by decide +kernel
theorem dX4_mindFollowsRow_16 : decode cX4_mindFollowsRow 16 = .ok (.aload_n 0, 1) := by decide +kernel
theorem dX4_mindFollowsRow_17 : decode cX4_mindFollowsRow 17 = .ok (.getfield 32, 3) := by decide +kernel
theorem dX4_mindFollowsRow_20 : decode cX4_mindFollowsRow 20 = .ok (.getfield 106, 3) := by decide +kernel
theorem dX4_mindFollowsRow_23 : decode cX4_mindFollowsRow 23 = .ok (.if_icmp .eq 5, 3) := by decide +kernel
theorem dX4_mindFollowsRow_26 : decode cX4_mindFollowsRow 26 = .ok (.iconst 0, 1) := by decide +kernel
theorem dX4_mindFollowsRow_27 : decode cX4_mindFollowsRow 27 = .ok (.ireturn, 1) := by decide +kernel
theorem dX4_mindFollowsRow_28 : decode cX4_mindFollowsRow 28 = .ok (.aload_n 0, 1) := by decide +kernel
theorem dX4_mindFollowsRow_29 : decode cX4_mindFollowsRow 29 = .ok (.getfield 32, 3) := by decide +kernel
theorem dX4_mindFollowsRow_32 : decode cX4_mindFollowsRow 32 = .ok (.aload_n 0, 1) := by decide +kernel
theorem dX4_mindFollowsRow_33 : decode cX4_mindFollowsRow 33 = .ok (.getfield 12, 3) := by decide +kernel
theorem dX4_mindFollowsRow_36 : decode cX4_mindFollowsRow 36 = .ok (.getfield 122, 3) := by decide +kernel
theorem dX4_mindFollowsRow_39 : decode cX4_mindFollowsRow 39 = .ok (.invokevirtual 184, 3) := by decide +kernel
theorem dX4_mindFollowsRow_42 : decode cX4_mindFollowsRow 42 = .ok (.iinc 1 1, 3) := by decide +kernel
theorem dX4_mindFollowsRow_45 : decode cX4_mindFollowsRow 45 = .ok (.goto (-43), 3) := by decide +kernel
theorem dX4_mindFollowsRow_48 : decode cX4_mindFollowsRow 48 = .ok (.iconst 1, 1) := by decide +kernel
theorem dX4_mindFollowsRow_49 : decode cX4_mindFollowsRow 49 = .ok (.ireturn, 1) := by decide +kernel
theorem dX4_firstWrongInRow_0 : decode cX4_firstWrongInRow 0 = .ok (.iconst 0, 1) := by decide +kernel
theorem dX4_firstWrongInRow_1 : decode cX4_firstWrongInRow 1 = .ok (.istore_n 1, 1) := by decide +kernel
theorem dX4_firstWrongInRow_2 : decode cX4_firstWrongInRow 2 = .ok (.iload_n 1, 1) := by decide +kernel
theorem dX4_firstWrongInRow_3 : decode cX4_firstWrongInRow 3 = .ok (.aload_n 0, 1) := by decide +kernel
theorem dX4_firstWrongInRow_4 : decode cX4_firstWrongInRow 4 = .ok (.getfield 251, 3) := by decide +kernel
theorem dX4_firstWrongInRow_7 : decode cX4_firstWrongInRow 7 = .ok (.if_icmp .ge 43, 3) := by decide +kernel
theorem dX4_firstWrongInRow_10 : decode cX4_firstWrongInRow 10 = .ok (.aload_n 0, 1) := by decide +kernel
theorem dX4_firstWrongInRow_11 : decode cX4_firstWrongInRow 11 = .ok (.getfield 12, 3) := by decide +kernel
theorem dX4_firstWrongInRow_14 : decode cX4_firstWrongInRow 14 = .ok (.iload_n 1, 1) := by decide +kernel
theorem dX4_firstWrongInRow_15 : decode cX4_firstWrongInRow 15 = .ok (.invokevirtual 85, 3) := by decide +kernel
theorem dX4_firstWrongInRow_18 : decode cX4_firstWrongInRow 18 = .ok (.ifCond .eq 24, 3) := by decide +kernel
theorem dX4_firstWrongInRow_21 : decode cX4_firstWrongInRow 21 = .ok (.aload_n 0, 1) := by decide +kernel
theorem dX4_firstWrongInRow_22 : decode cX4_firstWrongInRow 22 = .ok (.getfield 12, 3) := by decide +kernel
theorem dX4_firstWrongInRow_25 : decode cX4_firstWrongInRow 25 = .ok (.getfield 89, 3) := by decide +kernel
theorem dX4_firstWrongInRow_28 : decode cX4_firstWrongInRow 28 = .ok (.iload_n 1, 1) := by decide +kernel
theorem dX4_firstWrongInRow_29 : decode cX4_firstWrongInRow 29 = .ok (.aaload, 1) := by decide +kernel
theorem dX4_firstWrongInRow_30 : decode cX4_firstWrongInRow 30 = .ok (.getfield 106, 3) := by decide +kernel
theorem dX4_firstWrongInRow_33 : decode cX4_firstWrongInRow 33 = .ok (.aload_n 0, 1) := by decide +kernel
theorem dX4_firstWrongInRow_34 : decode cX4_firstWrongInRow 34 = .ok (.getfield 46, 3) := by decide +kernel
theorem dX4_firstWrongInRow_37 : decode cX4_firstWrongInRow 37 = .ok (.iload_n 1, 1) := by decide +kernel
theorem dX4_firstWrongInRow_38 : decode cX4_firstWrongInRow 38 = .ok (.iaload, 1) := by decide +kernel
theorem dX4_firstWrongInRow_39 : decode cX4_firstWrongInRow 39 = .ok (.if_icmp .eq 5, 3) := by decide +kernel
theorem dX4_firstWrongInRow_42 : decode cX4_firstWrongInRow 42 = .ok (.iload_n 1, 1) := by decide +kernel
theorem dX4_firstWrongInRow_43 : decode cX4_firstWrongInRow 43 = .ok (.ireturn, 1) := by decide +kernel
theorem dX4_firstWrongInRow_44 : decode cX4_firstWrongInRow 44 = .ok (.iinc 1 1, 3) := by decide +kernel
theorem dX4_firstWrongInRow_47 : decode cX4_firstWrongInRow 47 = .ok (.goto (-45), 3) := by decide +kernel
theorem dX4_firstWrongInRow_50 : decode cX4_firstWrongInRow 50 = .ok (.bipush (-9), 2) := by decide +kernel
theorem dX4_firstWrongInRow_52 : decode cX4_firstWrongInRow 52 = .ok (.ireturn, 1) := by decide +kernel
theorem dX4_partOfFraction_0 : decode cX4_partOfFraction 0 = .ok (.lload_n 0, 1) := by decide +kernel
theorem dX4_partOfFraction_1 : decode cX4_partOfFraction 1 = .ok (.lconst 0, 1) := by decide +kernel
theorem dX4_partOfFraction_2 : decode cX4_partOfFraction 2 = .ok (.lcmp, 1) := by decide +kernel
theorem dX4_partOfFraction_3 : decode cX4_partOfFraction 3 = .ok (.ifCond .le 9, 3) := by decide +kernel
theorem dX4_partOfFraction_6 : decode cX4_partOfFraction 6 = .ok (.lload_n 2, 1) := by decide +kernel
theorem dX4_partOfFraction_7 : decode cX4_partOfFraction 7 = .ok (.lconst 0, 1) := by decide +kernel
theorem dX4_partOfFraction_8 : decode cX4_partOfFraction 8 = .ok (.lcmp, 1) := by decide +kernel
theorem dX4_partOfFraction_9 : decode cX4_partOfFraction 9 = .ok (.ifCond .gt 14, 3) := by decide +kernel
theorem dX4_partOfFraction_12 : decode cX4_partOfFraction 12 = .ok (.iload 4, 2) := by decide +kernel
theorem dX4_partOfFraction_14 : decode cX4_partOfFraction 14 = .ok (.ifCond .ne 7, 3) := by decide +kernel
theorem dX4_partOfFraction_17 : decode cX4_partOfFraction 17 = .ok (.lconst 0, 1) := by decide +kernel
theorem dX4_partOfFraction_18 : decode cX4_partOfFraction 18 = .ok (.goto 4, 3) := by decide +kernel
theorem dX4_partOfFraction_21 : decode cX4_partOfFraction 21 = .ok (.lconst 1, 1) := by decide +kernel
theorem dX4_partOfFraction_22 : decode cX4_partOfFraction 22 = .ok (.lreturn, 1) := by decide +kernel
theorem dX4_partOfFraction_23 : decode cX4_partOfFraction 23 = .ok (.lload_n 0, 1) := by decide +kernel
theorem dX4_partOfFraction_24 : decode cX4_partOfFraction 24 = .ok (.lload_n 2, 1) := by decide +kernel
theorem dX4_partOfFraction_25 : decode cX4_partOfFraction 25 = .ok (.invokestatic 302, 3) := by decide +kernel
theorem dX4_partOfFraction_28 : decode cX4_partOfFraction 28 = .ok (.lstore 5, 2) := by decide +kernel
theorem dX4_partOfFraction_30 : decode cX4_partOfFraction 30 = .ok (.iload 4, 2) := by decide +kernel
theorem dX4_partOfFraction_32 : decode cX4_partOfFraction 32 = .ok (.ifCond .ne 7, 3) := by decide +kernel
theorem dX4_partOfFraction_35 : decode cX4_partOfFraction 35 = .ok (.lload_n 0, 1) := by decide +kernel
theorem dX4_partOfFraction_36 : decode cX4_partOfFraction 36 = .ok (.goto 4, 3) := by decide +kernel
theorem dX4_partOfFraction_39 : decode cX4_partOfFraction 39 = .ok (.lload_n 2, 1) := by decide +kernel
theorem dX4_partOfFraction_40 : decode cX4_partOfFraction 40 = .ok (.lload 5, 2) := by decide +kernel
theorem dX4_partOfFraction_42 : decode cX4_partOfFraction 42 = .ok (.ldiv, 1) := by decide +kernel
theorem dX4_partOfFraction_43 : decode cX4_partOfFraction 43 = .ok (.lreturn, 1) := by decide +kernel
theorem dX4_greatestDivisor_0 : decode cX4_greatestDivisor 0 = .ok (.lload_n 0, 1) := by decide +kernel
theorem dX4_greatestDivisor_1 : decode cX4_greatestDivisor 1 = .ok (.lstore 4, 2) := by decide +kernel
theorem dX4_greatestDivisor_3 : decode cX4_greatestDivisor 3 = .ok (.lload_n 2, 1) := by decide +kernel
theorem dX4_greatestDivisor_4 : decode cX4_greatestDivisor 4 = .ok (.lstore 6, 2) := by decide +kernel
theorem dX4_greatestDivisor_6 : decode cX4_greatestDivisor 6 = .ok (.iconst 0, 1) := by decide +kernel
theorem dX4_greatestDivisor_7 : decode cX4_greatestDivisor 7 = .ok (.istore 8, 2) := by decide +kernel
theorem dX4_greatestDivisor_9 : decode cX4_greatestDivisor 9 = .ok (.iload 8, 2) := by decide +kernel
theorem dX4_greatestDivisor_11 : decode cX4_greatestDivisor 11 = .ok (.sipush 128, 3) := by decide +kernel
theorem dX4_greatestDivisor_14 : decode cX4_greatestDivisor 14 = .ok (.if_icmp .ge 31, 3) := by decide +kernel
theorem dX4_greatestDivisor_17 : decode cX4_greatestDivisor 17 = .ok (.lload 6, 2) := by decide +kernel
theorem dX4_greatestDivisor_19 : decode cX4_greatestDivisor 19 = .ok (.lconst 0, 1) := by decide +kernel
theorem dX4_greatestDivisor_20 : decode cX4_greatestDivisor 20 = .ok (.lcmp, 1) := by decide +kernel
theorem dX4_greatestDivisor_21 : decode cX4_greatestDivisor 21 = .ok (.ifCond .le 24, 3) := by decide +kernel
theorem dX4_greatestDivisor_24 : decode cX4_greatestDivisor 24 = .ok (.lload 4, 2) := by decide +kernel
theorem dX4_greatestDivisor_26 : decode cX4_greatestDivisor 26 = .ok (.lload 6, 2) := by decide +kernel
theorem dX4_greatestDivisor_28 : decode cX4_greatestDivisor 28 = .ok (.lrem, 1) := by decide +kernel
theorem dX4_greatestDivisor_29 : decode cX4_greatestDivisor 29 = .ok (.lstore 9, 2) := by decide +kernel
theorem dX4_greatestDivisor_31 : decode cX4_greatestDivisor 31 = .ok (.lload 6, 2) := by decide +kernel
theorem dX4_greatestDivisor_33 : decode cX4_greatestDivisor 33 = .ok (.lstore 4, 2) := by decide +kernel
theorem dX4_greatestDivisor_35 : decode cX4_greatestDivisor 35 = .ok (.lload 9, 2) := by decide +kernel
theorem dX4_greatestDivisor_37 : decode cX4_greatestDivisor 37 = .ok (.lstore 6, 2) := by decide +kernel
theorem dX4_greatestDivisor_39 : decode cX4_greatestDivisor 39 = .ok (.iinc 8 1, 3) := by decide +kernel
theorem dX4_greatestDivisor_42 : decode cX4_greatestDivisor 42 = .ok (.goto (-33), 3) := by decide +kernel
theorem dX4_greatestDivisor_45 : decode cX4_greatestDivisor 45 = .ok (.lload 4, 2) := by decide +kernel
theorem dX4_greatestDivisor_47 : decode cX4_greatestDivisor 47 = .ok (.lconst 0, 1) := by decide +kernel
theorem dX4_greatestDivisor_48 : decode cX4_greatestDivisor 48 = .ok (.lcmp, 1) := by decide +kernel
theorem dX4_greatestDivisor_49 : decode cX4_greatestDivisor 49 = .ok (.ifCond .le 8, 3) := by decide +kernel
theorem dX4_greatestDivisor_52 : decode cX4_greatestDivisor 52 = .ok (.lload 4, 2) := by decide +kernel
theorem dX4_greatestDivisor_54 : decode cX4_greatestDivisor 54 = .ok (.goto 4, 3) := by decide +kernel
theorem dX4_greatestDivisor_57 : decode cX4_greatestDivisor 57 = .ok (.lconst 1, 1) := by decide +kernel
theorem dX4_greatestDivisor_58 : decode cX4_greatestDivisor 58 = .ok (.lreturn, 1) := by decide +kernel
theorem dX4_nextSeed_0 : decode cX4_nextSeed 0 = .ok (.iload_n 0, 1) := by decide +kernel
theorem dX4_nextSeed_1 : decode cX4_nextSeed 1 = .ok (.ldc_w 306, 3) := by decide +kernel
theorem dX4_nextSeed_4 : decode cX4_nextSeed 4 = .ok (.imul, 1) := by decide +kernel
theorem dX4_nextSeed_5 : decode cX4_nextSeed 5 = .ok (.ldc_w 307, 3) := by decide +kernel
theorem dX4_nextSeed_8 : decode cX4_nextSeed 8 = .ok (.iadd, 1) := by decide +kernel
theorem dX4_nextSeed_9 : decode cX4_nextSeed 9 = .ok (.ireturn, 1) := by decide +kernel
theorem dX4_drawn_0 : decode cX4_drawn 0 = .ok (.iload_n 1, 1) := by decide +kernel
theorem dX4_drawn_1 : decode cX4_drawn 1 = .ok (.ifCond .le 17, 3) := by decide +kernel
theorem dX4_drawn_4 : decode cX4_drawn 4 = .ok (.iload_n 0, 1) := by decide +kernel
theorem dX4_drawn_5 : decode cX4_drawn 5 = .ok (.ldc_w 308, 3) := by decide +kernel
theorem dX4_drawn_8 : decode cX4_drawn 8 = .ok (.iand, 1) := by decide +kernel
theorem dX4_drawn_9 : decode cX4_drawn 9 = .ok (.sipush 256, 3) := by decide +kernel
theorem dX4_drawn_12 : decode cX4_drawn 12 = .ok (.idiv, 1) := by decide +kernel
theorem dX4_drawn_13 : decode cX4_drawn 13 = .ok (.iload_n 1, 1) := by decide +kernel
theorem dX4_drawn_14 : decode cX4_drawn 14 = .ok (.irem, 1) := by decide +kernel
theorem dX4_drawn_15 : decode cX4_drawn 15 = .ok (.goto 4, 3) := by decide +kernel
theorem dX4_drawn_18 : decode cX4_drawn 18 = .ok (.iconst 0, 1) := by decide +kernel
theorem dX4_drawn_19 : decode cX4_drawn 19 = .ok (.ireturn, 1) := by decide +kernel
theorem dX4_shoesOfKind_0 : decode cX4_shoesOfKind 0 = .ok (.iload_n 0, 1) := by decide +kernel
theorem dX4_shoesOfKind_1 : decode cX4_shoesOfKind 1 = .ok (.tableswitch 49 0 5 #[39, 41, 43, 49, 45, 47], 39) := by decide +kernel
theorem dX4_shoesOfKind_40 : decode cX4_shoesOfKind 40 = .ok (.iconst 4, 1) := by decide +kernel
theorem dX4_shoesOfKind_41 : decode cX4_shoesOfKind 41 = .ok (.ireturn, 1) := by decide +kernel
theorem dX4_shoesOfKind_42 : decode cX4_shoesOfKind 42 = .ok (.iconst 1, 1) := by decide +kernel
theorem dX4_shoesOfKind_43 : decode cX4_shoesOfKind 43 = .ok (.ireturn, 1) := by decide +kernel
theorem dX4_shoesOfKind_44 : decode cX4_shoesOfKind 44 = .ok (.iconst 3, 1) := by decide +kernel
theorem dX4_shoesOfKind_45 : decode cX4_shoesOfKind 45 = .ok (.ireturn, 1) := by decide +kernel
theorem dX4_shoesOfKind_46 : decode cX4_shoesOfKind 46 = .ok (.iconst 2, 1) := by decide +kernel
theorem dX4_shoesOfKind_47 : decode cX4_shoesOfKind 47 = .ok (.ireturn, 1) := by decide +kernel
theorem dX4_shoesOfKind_48 : decode cX4_shoesOfKind 48 = .ok (.iconst 3, 1) := by decide +kernel
theorem dX4_shoesOfKind_49 : decode cX4_shoesOfKind 49 = .ok (.ireturn, 1) := by decide +kernel
theorem dX4_shoesOfKind_50 : decode cX4_shoesOfKind 50 = .ok (.iconst 0, 1) := by decide +kernel
theorem dX4_shoesOfKind_51 : decode cX4_shoesOfKind 51 = .ok (.ireturn, 1) := by decide +kernel
theorem dX4_daysOfKind_0 : decode cX4_daysOfKind 0 = .ok (.iload_n 1, 1) := by decide +kernel
theorem dX4_daysOfKind_1 : decode cX4_daysOfKind 1 = .ok (.iconst 3, 1) := by decide +kernel
theorem dX4_daysOfKind_2 : decode cX4_daysOfKind 2 = .ok (.idiv, 1) := by decide +kernel
theorem dX4_daysOfKind_3 : decode cX4_daysOfKind 3 = .ok (.iconst 1, 1) := by decide +kernel
theorem dX4_daysOfKind_4 : decode cX4_daysOfKind 4 = .ok (.iadd, 1) := by decide +kernel
theorem dX4_daysOfKind_5 : decode cX4_daysOfKind 5 = .ok (.istore_n 2, 1) := by decide +kernel
theorem dX4_daysOfKind_6 : decode cX4_daysOfKind 6 = .ok (.iload_n 2, 1) := by decide +kernel
theorem dX4_daysOfKind_7 : decode cX4_daysOfKind 7 = .ok (.iconst 2, 1) := by decide +kernel
theorem dX4_daysOfKind_8 : decode cX4_daysOfKind 8 = .ok (.idiv, 1) := by decide +kernel
theorem dX4_daysOfKind_9 : decode cX4_daysOfKind 9 = .ok (.iconst 1, 1) := by decide +kernel
theorem dX4_daysOfKind_10 : decode cX4_daysOfKind 10 = .ok (.iadd, 1) := by decide +kernel
theorem dX4_daysOfKind_11 : decode cX4_daysOfKind 11 = .ok (.istore_n 3, 1) := by decide +kernel
theorem dX4_daysOfKind_12 : decode cX4_daysOfKind 12 = .ok (.iload_n 0, 1) := by decide +kernel
theorem dX4_daysOfKind_13 : decode cX4_daysOfKind 13 = .ok (.tableswitch 53 0 5 #[39, 41, 43, 53, 45, 49], 39) := by decide +kernel
theorem dX4_daysOfKind_52 : decode cX4_daysOfKind 52 = .ok (.iload_n 2, 1) := by decide +kernel
theorem dX4_daysOfKind_53 : decode cX4_daysOfKind 53 = .ok (.ireturn, 1) := by decide +kernel
theorem dX4_daysOfKind_54 : decode cX4_daysOfKind 54 = .ok (.iload_n 2, 1) := by decide +kernel
theorem dX4_daysOfKind_55 : decode cX4_daysOfKind 55 = .ok (.ireturn, 1) := by decide +kernel
theorem dX4_daysOfKind_56 : decode cX4_daysOfKind 56 = .ok (.iload_n 3, 1) := by decide +kernel
theorem dX4_daysOfKind_57 : decode cX4_daysOfKind 57 = .ok (.ireturn, 1) := by decide +kernel
theorem dX4_daysOfKind_58 : decode cX4_daysOfKind 58 = .ok (.iconst 2, 1) := by decide +kernel
theorem dX4_daysOfKind_59 : decode cX4_daysOfKind 59 = .ok (.iload_n 2, 1) := by decide +kernel
theorem dX4_daysOfKind_60 : decode cX4_daysOfKind 60 = .ok (.imul, 1) := by decide +kernel
theorem dX4_daysOfKind_61 : decode cX4_daysOfKind 61 = .ok (.ireturn, 1) := by decide +kernel
theorem dX4_daysOfKind_62 : decode cX4_daysOfKind 62 = .ok (.iload_n 3, 1) := by decide +kernel
theorem dX4_daysOfKind_63 : decode cX4_daysOfKind 63 = .ok (.iconst 1, 1) := by decide +kernel
theorem dX4_daysOfKind_64 : decode cX4_daysOfKind 64 = .ok (.iadd, 1) := by decide +kernel
theorem dX4_daysOfKind_65 : decode cX4_daysOfKind 65 = .ok (.ireturn, 1) := by decide +kernel
theorem dX4_daysOfKind_66 : decode cX4_daysOfKind 66 = .ok (.iconst 0, 1) := by decide +kernel
theorem dX4_daysOfKind_67 : decode cX4_daysOfKind 67 = .ok (.ireturn, 1) := by decide +kernel
theorem dX4_kindOfLetter_0 : decode cX4_kindOfLetter 0 = .ok (.iload_n 0, 1) := by decide +kernel
theorem dX4_kindOfLetter_1 : decode cX4_kindOfLetter 1 = .ok (.lookupswitch 71 #[(98, 61), (109, 65), (112, 67), (114, 59), (117, 63), (120, 69)], 59) := by decide +kernel
theorem dX4_kindOfLetter_60 : decode cX4_kindOfLetter 60 = .ok (.iconst 0, 1) := by decide +kernel
theorem dX4_kindOfLetter_61 : decode cX4_kindOfLetter 61 = .ok (.ireturn, 1) := by decide +kernel
theorem dX4_kindOfLetter_62 : decode cX4_kindOfLetter 62 = .ok (.iconst 1, 1) := by decide +kernel
theorem dX4_kindOfLetter_63 : decode cX4_kindOfLetter 63 = .ok (.ireturn, 1) := by decide +kernel
theorem dX4_kindOfLetter_64 : decode cX4_kindOfLetter 64 = .ok (.iconst 2, 1) := by decide +kernel
theorem dX4_kindOfLetter_65 : decode cX4_kindOfLetter 65 = .ok (.ireturn, 1) := by decide +kernel
theorem dX4_kindOfLetter_66 : decode cX4_kindOfLetter 66 = .ok (.iconst 3, 1) := by decide +kernel
theorem dX4_kindOfLetter_67 : decode cX4_kindOfLetter 67 = .ok (.ireturn, 1) := by decide +kernel
theorem dX4_kindOfLetter_68 : decode cX4_kindOfLetter 68 = .ok (.iconst 4, 1) := by decide +kernel
theorem dX4_kindOfLetter_69 : decode cX4_kindOfLetter 69 = .ok (.ireturn, 1) := by decide +kernel
theorem dX4_kindOfLetter_70 : decode cX4_kindOfLetter 70 = .ok (.iconst 5, 1) := by decide +kernel
theorem dX4_kindOfLetter_71 : decode cX4_kindOfLetter 71 = .ok (.ireturn, 1) := by decide +kernel
theorem dX4_kindOfLetter_72 : decode cX4_kindOfLetter 72 = .ok (.bipush (-9), 2) := by decide +kernel
theorem dX4_kindOfLetter_74 : decode cX4_kindOfLetter 74 = .ok (.ireturn, 1) := by decide +kernel
end
section
theorem dX5_init_0 : decode cX5_init 0 = .ok (.aload_n 0, 1) := by decide +kernel
theorem dX5_init_1 : decode cX5_init 1 = .ok (.invokespecial 1, 3) := by decide +kernel
theorem dX5_init_4 : decode cX5_init 4 = .ok (.aload_n 0, 1) := by decide +kernel
theorem dX5_init_5 : decode cX5_init 5 = .ok (.bipush 52, 2) := by decide +kernel
theorem dX5_init_7 : decode cX5_init 7 = .ok (.newarray .int, 2) := by decide +kernel
theorem dX5_init_9 : decode cX5_init 9 = .ok (.putfield 9, 3) := by decide +kernel
theorem dX5_init_12 : decode cX5_init 12 = .ok (.aload_n 0, 1) := by decide +kernel
theorem dX5_init_13 : decode cX5_init 13 = .ok (.bipush 52, 2) := by decide +kernel
theorem dX5_init_15 : decode cX5_init 15 = .ok (.newarray .int, 2) := by decide +kernel
theorem dX5_init_17 : decode cX5_init 17 = .ok (.putfield 13, 3) := by decide +kernel
theorem dX5_init_20 : decode cX5_init 20 = .ok (.aload_n 0, 1) := by decide +kernel
theorem dX5_init_21 : decode cX5_init 21 = .ok (.bipush 52, 2) := by decide +kernel
theorem dX5_init_23 : decode cX5_init 23 = .ok (.newarray .int, 2) := by decide +kernel
theorem dX5_init_25 : decode cX5_init 25 = .ok (.putfield 16, 3) := by decide +kernel
theorem dX5_init_28 : decode cX5_init 28 = .ok (.aload_n 0, 1) := by decide +kernel
theorem dX5_init_29 : decode cX5_init 29 = .ok (.bipush 52, 2) := by decide +kernel
theorem dX5_init_31 : decode cX5_init 31 = .ok (.newarray .int, 2) := by decide +kernel
theorem dX5_init_33 : decode cX5_init 33 = .ok (.putfield 19, 3) := by decide +kernel
theorem dX5_init_36 : decode cX5_init 36 = .ok (.aload_n 0, 1) := by decide +kernel
theorem dX5_init_37 : decode cX5_init 37 = .ok (.bipush 64, 2) := by decide +kernel
theorem dX5_init_39 : decode cX5_init 39 = .ok (.newarray .int, 2) := by decide +kernel
theorem dX5_init_41 : decode cX5_init 41 = .ok (.putfield 22, 3) := by decide +kernel
theorem dX5_init_44 : decode cX5_init 44 = .ok (.aload_n 0, 1) := by decide +kernel
theorem dX5_init_45 : decode cX5_init 45 = .ok (.bipush 96, 2) := by decide +kernel
theorem dX5_init_47 : decode cX5_init 47 = .ok (.newarray .int, 2) := by decide +kernel
theorem dX5_init_49 : decode cX5_init 49 = .ok (.putfield 25, 3) := by decide +kernel
theorem dX5_init_52 : decode cX5_init 52 = .ok (.aload_n 0, 1) := by decide +kernel
theorem dX5_init_53 : decode cX5_init 53 = .ok (.bipush 16, 2) := by decide +kernel
theorem dX5_init_55 : decode cX5_init 55 = .ok (.newarray .int, 2) := by decide +kernel
theorem dX5_init_57 : decode cX5_init 57 = .ok (.putfield 28, 3) := by decide +kernel
theorem dX5_init_60 : decode cX5_init 60 = .ok (.aload_n 0, 1) := by decide +kernel
theorem dX5_init_61 : decode cX5_init 61 = .ok (.bipush 7, 2) := by decide +kernel
theorem dX5_init_63 : decode cX5_init 63 = .ok (.newarray .int, 2) := by decide +kernel
theorem dX5_init_65 : decode cX5_init 65 = .ok (.putfield 31, 3) := by decide +kernel
theorem dX5_init_68 : decode cX5_init 68 = .ok (.aload_n 0, 1) := by decide +kernel
theorem dX5_init_69 : decode cX5_init 69 = .ok (.iconst 5, 1) := by decide +kernel
theorem dX5_init_70 : decode cX5_init 70 = .ok (.newarray .int, 2) := by decide +kernel
theorem dX5_init_72 : decode cX5_init 72 = .ok (.putfield 34, 3) := by decide +kernel
theorem dX5_init_75 : decode cX5_init 75 = .ok (.aload_n 0, 1) := by decide +kernel
theorem dX5_init_76 : decode cX5_init 76 = .ok (.bipush 8, 2) := by decide +kernel
theorem dX5_init_78 : decode cX5_init 78 = .ok (.newarray .int, 2) := by decide +kernel
theorem dX5_init_80 : decode cX5_init 80 = .ok (.putfield 37, 3) := by decide +kernel
theorem dX5_init_83 : decode cX5_init 83 = .ok (.return_, 1) := by decide +kernel
theorem dX5_isIn_0 : decode cX5_isIn 0 = .ok (.iload_n 0, 1) := by decide +kernel
theorem dX5_isIn_1 : decode cX5_isIn 1 = .ok (.iload_n 1, 1) := by decide +kernel
theorem dX5_isIn_2 : decode cX5_isIn 2 = .ok (.if_icmp .lt 12, 3) := by decide +kernel
theorem dX5_isIn_5 : decode cX5_isIn 5 = .ok (.iload_n 0, 1) := by decide +kernel
theorem dX5_isIn_6 : decode cX5_isIn 6 = .ok (.iload_n 2, 1) := by decide +kernel
theorem dX5_isIn_7 : decode cX5_isIn 7 = .ok (.if_icmp .gt 7, 3) := by decide +kernel
theorem dX5_isIn_10 : decode cX5_isIn 10 = .ok (.iconst 1, 1) := by decide +kernel
theorem dX5_isIn_11 : decode cX5_isIn 11 = .ok (.goto 4, 3) := by decide +kernel
theorem dX5_isIn_14 : decode cX5_isIn 14 = .ok (.iconst 0, 1) := by decide +kernel
theorem dX5_isIn_15 : decode cX5_isIn 15 = .ok (.ireturn, 1) := by decide +kernel
theorem dX5_least_0 : decode cX5_least 0 = .ok (.iload_n 0, 1) := by decide +kernel
theorem dX5_least_1 : decode cX5_least 1 = .ok (.iload_n 1, 1) := by decide +kernel
theorem dX5_least_2 : decode cX5_least 2 = .ok (.if_icmp .ge 7, 3) := by decide +kernel
theorem dX5_least_5 : decode cX5_least 5 = .ok (.iload_n 0, 1) := by decide +kernel
theorem dX5_least_6 : decode cX5_least 6 = .ok (.goto 4, 3) := by decide +kernel
theorem dX5_least_9 : decode cX5_least 9 = .ok (.iload_n 1, 1) := by decide +kernel
theorem dX5_least_10 : decode cX5_least 10 = .ok (.ireturn, 1) := by decide +kernel
theorem dX5_copies_0 : decode cX5_copies 0 = .ok (.iconst 0, 1) := by decide +kernel
theorem dX5_copies_1 : decode cX5_copies 1 = .ok (.istore_n 2, 1) := by decide +kernel
theorem dX5_copies_2 : decode cX5_copies 2 = .ok (.iload_n 2, 1) := by decide +kernel
theorem dX5_copies_3 : decode cX5_copies 3 = .ok (.bipush 52, 2) := by decide +kernel
theorem dX5_copies_5 : decode cX5_copies 5 = .ok (.if_icmp .ge 15, 3) := by decide +kernel
theorem dX5_copies_8 : decode cX5_copies 8 = .ok (.aload_n 1, 1) := by decide +kernel
theorem dX5_copies_9 : decode cX5_copies 9 = .ok (.iload_n 2, 1) := by decide +kernel
theorem dX5_copies_10 : decode cX5_copies 10 = .ok (.aload_n 0, 1) := by decide +kernel
theorem dX5_copies_11 : decode cX5_copies 11 = .ok (.iload_n 2, 1) := by decide +kernel
theorem dX5_copies_12 : decode cX5_copies 12 = .ok (.iaload, 1) := by decide +kernel
theorem dX5_copies_13 : decode cX5_copies 13 = .ok (.iastore, 1) := by decide +kernel
theorem dX5_copies_14 : decode cX5_copies 14 = .ok (.iinc 2 1, 3) := by decide +kernel
theorem dX5_copies_17 : decode cX5_copies 17 = .ok (.goto (-15), 3) := by decide +kernel
theorem dX5_copies_20 : decode cX5_copies 20 = .ok (.return_, 1) := by decide +kernel
theorem dX5_no_0 : decode cX5_no 0 = .ok (.aload_n 0, 1) := by decide +kernel
theorem dX5_no_1 : decode cX5_no 1 = .ok (.getfield 31, 3) := by decide +kernel
theorem dX5_no_4 : decode cX5_no 4 = .ok (.iload_n 1, 1) := by decide +kernel
theorem dX5_no_5 : decode cX5_no 5 = .ok (.ineg, 1) := by decide +kernel
theorem dX5_no_6 : decode cX5_no 6 = .ok (.dup2, 1) := by decide +kernel
theorem dX5_no_7 : decode cX5_no 7 = .ok (.iaload, 1) := by decide +kernel
theorem dX5_no_8 : decode cX5_no 8 = .ok (.iconst 1, 1) := by decide +kernel
theorem dX5_no_9 : decode cX5_no 9 = .ok (.iadd, 1) := by decide +kernel
theorem dX5_no_10 : decode cX5_no 10 = .ok (.iastore, 1) := by decide +kernel
theorem dX5_no_11 : decode cX5_no 11 = .ok (.iload_n 1, 1) := by decide +kernel
theorem dX5_no_12 : decode cX5_no 12 = .ok (.ireturn, 1) := by decide +kernel
theorem dX5_noWide_0 : decode cX5_noWide 0 = .ok (.ldc2_w 40, 3) := by decide +kernel
theorem dX5_noWide_3 : decode cX5_noWide 3 = .ok (.aload_n 0, 1) := by decide +kernel
theorem dX5_noWide_4 : decode cX5_noWide 4 = .ok (.iload_n 1, 1) := by decide +kernel
theorem dX5_noWide_5 : decode cX5_noWide 5 = .ok (.invokevirtual 42, 3) := by decide +kernel
theorem dX5_noWide_8 : decode cX5_noWide 8 = .ok (.i2l, 1) := by decide +kernel
theorem dX5_noWide_9 : decode cX5_noWide 9 = .ok (.lsub, 1) := by decide +kernel
theorem dX5_noWide_10 : decode cX5_noWide 10 = .ok (.lreturn, 1) := by decide +kernel
theorem dX5_of_0 : decode cX5_of 0 = .ok (.bipush 10, 2) := by decide +kernel
theorem dX5_of_2 : decode cX5_of 2 = .ok (.bipush 7, 2) := by decide +kernel
theorem dX5_of_4 : decode cX5_of 4 = .ok (.iload_n 0, 1) := by decide +kernel
theorem dX5_of_5 : decode cX5_of 5 = .ok (.imul, 1) := by decide +kernel
theorem dX5_of_6 : decode cX5_of 6 = .ok (.iadd, 1) := by decide +kernel
theorem dX5_of_7 : decode cX5_of 7 = .ok (.iload_n 1, 1) := by decide +kernel
theorem dX5_of_8 : decode cX5_of 8 = .ok (.iadd, 1) := by decide +kernel
theorem dX5_of_9 : decode cX5_of 9 = .ok (.ireturn, 1) := by decide +kernel
theorem dX5_isRider_0 : decode cX5_isRider 0 = .ok (.iload_n 1, 1) := by decide +kernel
theorem dX5_isRider_1 : decode cX5_isRider 1 = .ok (.iconst 0, 1) := by decide +kernel
theorem dX5_isRider_2 : decode cX5_isRider 2 = .ok (.aload_n 0, 1) := by decide +kernel
theorem dX5_isRider_3 : decode cX5_isRider 3 = .ok (.getfield 9, 3) := by decide +kernel
theorem dX5_isRider_6 : decode cX5_isRider 6 = .ok (.iconst 0, 1) := by decide +kernel
theorem dX5_isRider_7 : decode cX5_isRider 7 = .ok (.iaload, 1) := by decide +kernel
theorem dX5_isRider_8 : decode cX5_isRider 8 = .ok (.iconst 1, 1) := by decide +kernel
theorem dX5_isRider_9 : decode cX5_isRider 9 = .ok (.isub, 1) := by decide +kernel
theorem dX5_isRider_10 : decode cX5_isRider 10 = .ok (.invokestatic 46, 3) := by decide +kernel
theorem dX5_isRider_13 : decode cX5_isRider 13 = .ok (.ireturn, 1) := by decide +kernel
theorem dX5_isPlace_0 : decode cX5_isPlace 0 = .ok (.iload_n 0, 1) := by decide +kernel
theorem dX5_isPlace_1 : decode cX5_isPlace 1 = .ok (.iconst 0, 1) := by decide +kernel
theorem dX5_isPlace_2 : decode cX5_isPlace 2 = .ok (.bipush 7, 2) := by decide +kernel
theorem dX5_isPlace_4 : decode cX5_isPlace 4 = .ok (.invokestatic 46, 3) := by decide +kernel
theorem dX5_isPlace_7 : decode cX5_isPlace 7 = .ok (.ireturn, 1) := by decide +kernel
theorem dX5_has_0 : decode cX5_has 0 = .ok (.iload_n 0, 1) := by decide +kernel
theorem dX5_has_1 : decode cX5_has 1 = .ok (.iload_n 1, 1) := by decide +kernel
theorem dX5_has_2 : decode cX5_has 2 = .ok (.ishr, 1) := by decide +kernel
theorem dX5_has_3 : decode cX5_has 3 = .ok (.iconst 1, 1) := by decide +kernel
theorem dX5_has_4 : decode cX5_has 4 = .ok (.iand, 1) := by decide +kernel
theorem dX5_has_5 : decode cX5_has 5 = .ok (.iconst 1, 1) := by decide +kernel
theorem dX5_has_6 : decode cX5_has 6 = .ok (.if_icmp .ne 7, 3) := by decide +kernel
theorem dX5_has_9 : decode cX5_has 9 = .ok (.iconst 1, 1) := by decide +kernel
theorem dX5_has_10 : decode cX5_has 10 = .ok (.goto 4, 3) := by decide +kernel
theorem dX5_has_13 : decode cX5_has 13 = .ok (.iconst 0, 1) := by decide +kernel
theorem dX5_has_14 : decode cX5_has 14 = .ok (.ireturn, 1) := by decide +kernel
theorem dX5_bits_0 : decode cX5_bits 0 = .ok (.iconst 0, 1) := by decide +kernel
theorem dX5_bits_1 : decode cX5_bits 1 = .ok (.istore_n 1, 1) := by decide +kernel
theorem dX5_bits_2 : decode cX5_bits 2 = .ok (.iconst 0, 1) := by decide +kernel
theorem dX5_bits_3 : decode cX5_bits 3 = .ok (.istore_n 2, 1) := by decide +kernel
theorem dX5_bits_4 : decode cX5_bits 4 = .ok (.iload_n 2, 1) := by decide +kernel
theorem dX5_bits_5 : decode cX5_bits 5 = .ok (.bipush 8, 2) := by decide +kernel
theorem dX5_bits_7 : decode cX5_bits 7 = .ok (.if_icmp .ge 17, 3) := by decide +kernel
theorem dX5_bits_10 : decode cX5_bits 10 = .ok (.iload_n 1, 1) := by decide +kernel
theorem dX5_bits_11 : decode cX5_bits 11 = .ok (.iload_n 0, 1) := by decide +kernel
theorem dX5_bits_12 : decode cX5_bits 12 = .ok (.iload_n 2, 1) := by decide +kernel
theorem dX5_bits_13 : decode cX5_bits 13 = .ok (.ishr, 1) := by decide +kernel
theorem dX5_bits_14 : decode cX5_bits 14 = .ok (.iconst 1, 1) := by decide +kernel
theorem dX5_bits_15 : decode cX5_bits 15 = .ok (.iand, 1) := by decide +kernel
theorem dX5_bits_16 : decode cX5_bits 16 = .ok (.iadd, 1) := by decide +kernel
theorem dX5_bits_17 : decode cX5_bits 17 = .ok (.istore_n 1, 1) := by decide +kernel
theorem dX5_bits_18 : decode cX5_bits 18 = .ok (.iinc 2 1, 3) := by decide +kernel
theorem dX5_bits_21 : decode cX5_bits 21 = .ok (.goto (-17), 3) := by decide +kernel
theorem dX5_bits_24 : decode cX5_bits 24 = .ok (.iload_n 1, 1) := by decide +kernel
theorem dX5_bits_25 : decode cX5_bits 25 = .ok (.ireturn, 1) := by decide +kernel
theorem dX5_shoesBy_0 : decode cX5_shoesBy 0 = .ok (.iload_n 0, 1) := by decide +kernel
theorem dX5_shoesBy_1 : decode cX5_shoesBy 1 = .ok (.tableswitch 43 1 5 #[35, 37, 39, 41, 37], 35) := by decide +kernel
theorem dX5_shoesBy_36 : decode cX5_shoesBy 36 = .ok (.iconst 1, 1) := by decide +kernel
theorem dX5_shoesBy_37 : decode cX5_shoesBy 37 = .ok (.ireturn, 1) := by decide +kernel
theorem dX5_shoesBy_38 : decode cX5_shoesBy 38 = .ok (.iconst 3, 1) := by decide +kernel
theorem dX5_shoesBy_39 : decode cX5_shoesBy 39 = .ok (.ireturn, 1) := by decide +kernel
theorem dX5_shoesBy_40 : decode cX5_shoesBy 40 = .ok (.iconst 0, 1) := by decide +kernel
theorem dX5_shoesBy_41 : decode cX5_shoesBy 41 = .ok (.ireturn, 1) := by decide +kernel
theorem dX5_shoesBy_42 : decode cX5_shoesBy 42 = .ok (.iconst 2, 1) := by decide +kernel
theorem dX5_shoesBy_43 : decode cX5_shoesBy 43 = .ok (.ireturn, 1) := by decide +kernel
theorem dX5_shoesBy_44 : decode cX5_shoesBy 44 = .ok (.iconst 4, 1) := by decide +kernel
theorem dX5_shoesBy_45 : decode cX5_shoesBy 45 = .ok (.ireturn, 1) := by decide +kernel
theorem dX5_daysBy_0 : decode cX5_daysBy 0 = .ok (.iload_n 1, 1) := by decide +kernel
theorem dX5_daysBy_1 : decode cX5_daysBy 1 = .ok (.iconst 3, 1) := by decide +kernel
theorem dX5_daysBy_2 : decode cX5_daysBy 2 = .ok (.idiv, 1) := by decide +kernel
theorem dX5_daysBy_3 : decode cX5_daysBy 3 = .ok (.iconst 1, 1) := by decide +kernel
theorem dX5_daysBy_4 : decode cX5_daysBy 4 = .ok (.iadd, 1) := by decide +kernel
theorem dX5_daysBy_5 : decode cX5_daysBy 5 = .ok (.istore_n 2, 1) := by decide +kernel
theorem dX5_daysBy_6 : decode cX5_daysBy 6 = .ok (.iload_n 0, 1) := by decide +kernel
theorem dX5_daysBy_7 : decode cX5_daysBy 7 = .ok (.tableswitch 47 2 5 #[29, 35, 37, 41], 29) := by decide +kernel
theorem dX5_daysBy_36 : decode cX5_daysBy 36 = .ok (.iload_n 2, 1) := by decide +kernel
theorem dX5_daysBy_37 : decode cX5_daysBy 37 = .ok (.iconst 2, 1) := by decide +kernel
theorem dX5_daysBy_38 : decode cX5_daysBy 38 = .ok (.idiv, 1) := by decide +kernel
theorem dX5_daysBy_39 : decode cX5_daysBy 39 = .ok (.iconst 1, 1) := by decide +kernel
theorem dX5_daysBy_40 : decode cX5_daysBy 40 = .ok (.iadd, 1) := by decide +kernel
theorem dX5_daysBy_41 : decode cX5_daysBy 41 = .ok (.ireturn, 1) := by decide +kernel
theorem dX5_daysBy_42 : decode cX5_daysBy 42 = .ok (.iconst 0, 1) := by decide +kernel
theorem dX5_daysBy_43 : decode cX5_daysBy 43 = .ok (.ireturn, 1) := by decide +kernel
theorem dX5_daysBy_44 : decode cX5_daysBy 44 = .ok (.iconst 2, 1) := by decide +kernel
theorem dX5_daysBy_45 : decode cX5_daysBy 45 = .ok (.iload_n 2, 1) := by decide +kernel
theorem dX5_daysBy_46 : decode cX5_daysBy 46 = .ok (.imul, 1) := by decide +kernel
theorem dX5_daysBy_47 : decode cX5_daysBy 47 = .ok (.ireturn, 1) := by decide +kernel
theorem dX5_daysBy_48 : decode cX5_daysBy 48 = .ok (.iload_n 2, 1) := by decide +kernel
theorem dX5_daysBy_49 : decode cX5_daysBy 49 = .ok (.iconst 2, 1) := by decide +kernel
theorem dX5_daysBy_50 : decode cX5_daysBy 50 = .ok (.idiv, 1) := by decide +kernel
theorem dX5_daysBy_51 : decode cX5_daysBy 51 = .ok (.iconst 2, 1) := by decide +kernel
theorem dX5_daysBy_52 : decode cX5_daysBy 52 = .ok (.iadd, 1) := by decide +kernel
theorem dX5_daysBy_53 : decode cX5_daysBy 53 = .ok (.ireturn, 1) := by decide +kernel
theorem dX5_daysBy_54 : decode cX5_daysBy 54 = .ok (.iload_n 2, 1) := by decide +kernel
theorem dX5_daysBy_55 : decode cX5_daysBy 55 = .ok (.ireturn, 1) := by decide +kernel
theorem dX5_measures_0 : decode cX5_measures 0 = .ok (.iconst 0, 1) := by decide +kernel
theorem dX5_measures_1 : decode cX5_measures 1 = .ok (.istore_n 2, 1) := by decide +kernel
theorem dX5_measures_2 : decode cX5_measures 2 = .ok (.iload_n 2, 1) := by decide +kernel
theorem dX5_measures_3 : decode cX5_measures 3 = .ok (.bipush 8, 2) := by decide +kernel
theorem dX5_measures_5 : decode cX5_measures 5 = .ok (.if_icmp .ge 61, 3) := by decide +kernel
theorem dX5_measures_8 : decode cX5_measures 8 = .ok (.iconst 0, 1) := by decide +kernel
theorem dX5_measures_9 : decode cX5_measures 9 = .ok (.istore_n 3, 1) := by decide +kernel
theorem dX5_measures_10 : decode cX5_measures 10 = .ok (.iload_n 3, 1) := by decide +kernel
theorem dX5_measures_11 : decode cX5_measures 11 = .ok (.bipush 8, 2) := by decide +kernel
theorem dX5_measures_13 : decode cX5_measures 13 = .ok (.if_icmp .ge 47, 3) := by decide +kernel
theorem dX5_measures_16 : decode cX5_measures 16 = .ok (.aload_n 0, 1) := by decide +kernel
theorem dX5_measures_17 : decode cX5_measures 17 = .ok (.getfield 22, 3) := by decide +kernel
theorem dX5_measures_20 : decode cX5_measures 20 = .ok (.bipush 8, 2) := by decide +kernel
theorem dX5_measures_22 : decode cX5_measures 22 = .ok (.iload_n 2, 1) := by decide +kernel
theorem dX5_measures_23 : decode cX5_measures 23 = .ok (.imul, 1) := by decide +kernel
theorem dX5_measures_24 : decode cX5_measures 24 = .ok (.iload_n 3, 1) := by decide +kernel
theorem dX5_measures_25 : decode cX5_measures 25 = .ok (.iadd, 1) := by decide +kernel
theorem dX5_measures_26 : decode cX5_measures 26 = .ok (.iload_n 2, 1) := by decide +kernel
theorem dX5_measures_27 : decode cX5_measures 27 = .ok (.iload_n 3, 1) := by decide +kernel
theorem dX5_measures_28 : decode cX5_measures 28 = .ok (.if_icmp .ne 7, 3) := by decide +kernel
theorem dX5_measures_31 : decode cX5_measures 31 = .ok (.iconst 0, 1) := by decide +kernel
theorem dX5_measures_32 : decode cX5_measures 32 = .ok (.goto 21, 3) := by decide +kernel
theorem dX5_measures_35 : decode cX5_measures 35 = .ok (.aload_n 1, 1) := by decide +kernel
theorem dX5_measures_36 : decode cX5_measures 36 = .ok (.iconst 2, 1) := by decide +kernel
theorem dX5_measures_37 : decode cX5_measures 37 = .ok (.iload_n 2, 1) := by decide +kernel
theorem dX5_measures_38 : decode cX5_measures 38 = .ok (.iadd, 1) := by decide +kernel
theorem dX5_measures_39 : decode cX5_measures 39 = .ok (.iaload, 1) := by decide +kernel
theorem dX5_measures_40 : decode cX5_measures 40 = .ok (.iload_n 3, 1) := by decide +kernel
theorem dX5_measures_41 : decode cX5_measures 41 = .ok (.invokestatic 50, 3) := by decide +kernel
theorem dX5_measures_44 : decode cX5_measures 44 = .ok (.ifCond .eq 7, 3) := by decide +kernel
theorem dX5_measures_47 : decode cX5_measures 47 = .ok (.iconst 1, 1) := by decide +kernel
theorem dX5_measures_48 : decode cX5_measures 48 = .ok (.goto 5, 3) := by decide +kernel
theorem dX5_measures_51 : decode cX5_measures 51 = .ok (.bipush 9, 2) := by decide +kernel
theorem dX5_measures_53 : decode cX5_measures 53 = .ok (.iastore, 1) := by decide +kernel
theorem dX5_measures_54 : decode cX5_measures 54 = .ok (.iinc 3 1, 3) := by decide +kernel
theorem dX5_measures_57 : decode cX5_measures 57 = .ok (.goto (-47), 3) := by decide +kernel
theorem dX5_measures_60 : decode cX5_measures 60 = .ok (.iinc 2 1, 3) := by decide +kernel
theorem dX5_measures_63 : decode cX5_measures 63 = .ok (.goto (-61), 3) := by decide +kernel
theorem dX5_measures_66 : decode cX5_measures 66 = .ok (.iconst 0, 1) := by decide +kernel
theorem dX5_measures_67 : decode cX5_measures 67 = .ok (.istore_n 2, 1) := by decide +kernel
theorem dX5_measures_68 : decode cX5_measures 68 = .ok (.iload_n 2, 1) := by decide +kernel
theorem dX5_measures_69 : decode cX5_measures 69 = .ok (.bipush 8, 2) := by decide +kernel
theorem dX5_measures_71 : decode cX5_measures 71 = .ok (.if_icmp .ge 90, 3) := by decide +kernel
theorem dX5_measures_74 : decode cX5_measures 74 = .ok (.iconst 0, 1) := by decide +kernel
theorem dX5_measures_75 : decode cX5_measures 75 = .ok (.istore_n 3, 1) := by decide +kernel
theorem dX5_measures_76 : decode cX5_measures 76 = .ok (.iload_n 3, 1) := by decide +kernel
theorem dX5_measures_77 : decode cX5_measures 77 = .ok (.bipush 8, 2) := by decide +kernel
theorem dX5_measures_79 : decode cX5_measures 79 = .ok (.if_icmp .ge 76, 3) := by decide +kernel
theorem dX5_measures_82 : decode cX5_measures 82 = .ok (.iconst 0, 1) := by decide +kernel
theorem dX5_measures_83 : decode cX5_measures 83 = .ok (.istore 4, 2) := by decide +kernel
theorem dX5_measures_85 : decode cX5_measures 85 = .ok (.iload 4, 2) := by decide +kernel
theorem dX5_measures_87 : decode cX5_measures 87 = .ok (.bipush 8, 2) := by decide +kernel
theorem dX5_measures_89 : decode cX5_measures 89 = .ok (.if_icmp .ge 60, 3) := by decide +kernel
theorem dX5_measures_92 : decode cX5_measures 92 = .ok (.aload_n 0, 1) := by decide +kernel
theorem dX5_measures_93 : decode cX5_measures 93 = .ok (.getfield 22, 3) := by decide +kernel
theorem dX5_measures_96 : decode cX5_measures 96 = .ok (.bipush 8, 2) := by decide +kernel
theorem dX5_measures_98 : decode cX5_measures 98 = .ok (.iload_n 3, 1) := by decide +kernel
theorem dX5_measures_99 : decode cX5_measures 99 = .ok (.imul, 1) := by decide +kernel
theorem dX5_measures_100 : decode cX5_measures 100 = .ok (.iload 4, 2) := by decide +kernel
theorem dX5_measures_102 : decode cX5_measures 102 = .ok (.iadd, 1) := by decide +kernel
theorem dX5_measures_103 : decode cX5_measures 103 = .ok (.aload_n 0, 1) := by decide +kernel
theorem dX5_measures_104 : decode cX5_measures 104 = .ok (.getfield 22, 3) := by decide +kernel
theorem dX5_measures_107 : decode cX5_measures 107 = .ok (.bipush 8, 2) := by decide +kernel
theorem dX5_measures_109 : decode cX5_measures 109 = .ok (.iload_n 3, 1) := by decide +kernel
theorem dX5_measures_110 : decode cX5_measures 110 = .ok (.imul, 1) := by decide +kernel
theorem dX5_measures_111 : decode cX5_measures 111 = .ok (.iload 4, 2) := by decide +kernel
theorem dX5_measures_113 : decode cX5_measures 113 = .ok (.iadd, 1) := by decide +kernel
theorem dX5_measures_114 : decode cX5_measures 114 = .ok (.iaload, 1) := by decide +kernel
theorem dX5_measures_115 : decode cX5_measures 115 = .ok (.aload_n 0, 1) := by decide +kernel
theorem dX5_measures_116 : decode cX5_measures 116 = .ok (.getfield 22, 3) := by decide +kernel
theorem dX5_measures_119 : decode cX5_measures 119 = .ok (.bipush 8, 2) := by decide +kernel
theorem dX5_measures_121 : decode cX5_measures 121 = .ok (.iload_n 3, 1) := by decide +kernel
theorem dX5_measures_122 : decode cX5_measures 122 = .ok (.imul, 1) := by decide +kernel
theorem dX5_measures_123 : decode cX5_measures 123 = .ok (.iload_n 2, 1) := by decide +kernel
theorem dX5_measures_124 : decode cX5_measures 124 = .ok (.iadd, 1) := by decide +kernel
theorem dX5_measures_125 : decode cX5_measures 125 = .ok (.iaload, 1) := by decide +kernel
theorem dX5_measures_126 : decode cX5_measures 126 = .ok (.aload_n 0, 1) := by decide +kernel
theorem dX5_measures_127 : decode cX5_measures 127 = .ok (.getfield 22, 3) := by decide +kernel
theorem dX5_measures_130 : decode cX5_measures 130 = .ok (.bipush 8, 2) := by decide +kernel
theorem dX5_measures_132 : decode cX5_measures 132 = .ok (.iload_n 2, 1) := by decide +kernel
theorem dX5_measures_133 : decode cX5_measures 133 = .ok (.imul, 1) := by decide +kernel
theorem dX5_measures_134 : decode cX5_measures 134 = .ok (.iload 4, 2) := by decide +kernel
theorem dX5_measures_136 : decode cX5_measures 136 = .ok (.iadd, 1) := by decide +kernel
theorem dX5_measures_137 : decode cX5_measures 137 = .ok (.iaload, 1) := by decide +kernel
theorem dX5_measures_138 : decode cX5_measures 138 = .ok (.iadd, 1) := by decide +kernel
theorem dX5_measures_139 : decode cX5_measures 139 = .ok (.invokestatic 54, 3) := by decide +kernel
theorem dX5_measures_142 : decode cX5_measures 142 = .ok (.iastore, 1) := by decide +kernel
theorem dX5_measures_143 : decode cX5_measures 143 = .ok (.iinc 4 1, 3) := by decide +kernel
theorem dX5_measures_146 : decode cX5_measures 146 = .ok (.goto (-61), 3) := by decide +kernel
theorem dX5_measures_149 : decode cX5_measures 149 = .ok (.iinc 3 1, 3) := by decide +kernel
theorem dX5_measures_152 : decode cX5_measures 152 = .ok (.goto (-76), 3) := by decide +kernel
theorem dX5_measures_155 : decode cX5_measures 155 = .ok (.iinc 2 1, 3) := by decide +kernel
theorem dX5_measures_158 : decode cX5_measures 158 = .ok (.goto (-90), 3) := by decide +kernel
theorem dX5_measures_161 : decode cX5_measures 161 = .ok (.return_, 1) := by decide +kernel
theorem dX5_pull_0 : decode cX5_pull 0 = .ok (.aload_n 1, 1) := by decide +kernel
theorem dX5_pull_1 : decode cX5_pull 1 = .ok (.iload_n 2, 1) := by decide +kernel
theorem dX5_pull_2 : decode cX5_pull 2 = .ok (.iconst 5, 1) := by decide +kernel
theorem dX5_pull_3 : decode cX5_pull 3 = .ok (.invokestatic 58, 3) := by decide +kernel
theorem dX5_pull_6 : decode cX5_pull 6 = .ok (.iaload, 1) := by decide +kernel
theorem dX5_pull_7 : decode cX5_pull 7 = .ok (.aload_n 0, 1) := by decide +kernel
theorem dX5_pull_8 : decode cX5_pull 8 = .ok (.getfield 22, 3) := by decide +kernel
theorem dX5_pull_11 : decode cX5_pull 11 = .ok (.bipush 8, 2) := by decide +kernel
theorem dX5_pull_13 : decode cX5_pull 13 = .ok (.iload_n 3, 1) := by decide +kernel
theorem dX5_pull_14 : decode cX5_pull 14 = .ok (.imul, 1) := by decide +kernel
theorem dX5_pull_15 : decode cX5_pull 15 = .ok (.aload_n 1, 1) := by decide +kernel
theorem dX5_pull_16 : decode cX5_pull 16 = .ok (.iload_n 2, 1) := by decide +kernel
theorem dX5_pull_17 : decode cX5_pull 17 = .ok (.iconst 2, 1) := by decide +kernel
theorem dX5_pull_18 : decode cX5_pull 18 = .ok (.invokestatic 58, 3) := by decide +kernel
theorem dX5_pull_21 : decode cX5_pull 21 = .ok (.iaload, 1) := by decide +kernel
theorem dX5_pull_22 : decode cX5_pull 22 = .ok (.iadd, 1) := by decide +kernel
theorem dX5_pull_23 : decode cX5_pull 23 = .ok (.iaload, 1) := by decide +kernel
theorem dX5_pull_24 : decode cX5_pull 24 = .ok (.imul, 1) := by decide +kernel
theorem dX5_pull_25 : decode cX5_pull 25 = .ok (.iconst 4, 1) := by decide +kernel
theorem dX5_pull_26 : decode cX5_pull 26 = .ok (.aload_n 1, 1) := by decide +kernel
theorem dX5_pull_27 : decode cX5_pull 27 = .ok (.iload_n 2, 1) := by decide +kernel
theorem dX5_pull_28 : decode cX5_pull 28 = .ok (.iconst 5, 1) := by decide +kernel
theorem dX5_pull_29 : decode cX5_pull 29 = .ok (.invokestatic 58, 3) := by decide +kernel
theorem dX5_pull_32 : decode cX5_pull 32 = .ok (.iaload, 1) := by decide +kernel
theorem dX5_pull_33 : decode cX5_pull 33 = .ok (.isub, 1) := by decide +kernel
theorem dX5_pull_34 : decode cX5_pull 34 = .ok (.aload_n 0, 1) := by decide +kernel
theorem dX5_pull_35 : decode cX5_pull 35 = .ok (.getfield 22, 3) := by decide +kernel
theorem dX5_pull_38 : decode cX5_pull 38 = .ok (.bipush 8, 2) := by decide +kernel
theorem dX5_pull_40 : decode cX5_pull 40 = .ok (.iload_n 3, 1) := by decide +kernel
theorem dX5_pull_41 : decode cX5_pull 41 = .ok (.imul, 1) := by decide +kernel
theorem dX5_pull_42 : decode cX5_pull 42 = .ok (.aload_n 1, 1) := by decide +kernel
theorem dX5_pull_43 : decode cX5_pull 43 = .ok (.iload_n 2, 1) := by decide +kernel
theorem dX5_pull_44 : decode cX5_pull 44 = .ok (.iconst 3, 1) := by decide +kernel
theorem dX5_pull_45 : decode cX5_pull 45 = .ok (.invokestatic 58, 3) := by decide +kernel
theorem dX5_pull_48 : decode cX5_pull 48 = .ok (.iaload, 1) := by decide +kernel
theorem dX5_pull_49 : decode cX5_pull 49 = .ok (.iadd, 1) := by decide +kernel
theorem dX5_pull_50 : decode cX5_pull 50 = .ok (.iaload, 1) := by decide +kernel
theorem dX5_pull_51 : decode cX5_pull 51 = .ok (.imul, 1) := by decide +kernel
theorem dX5_pull_52 : decode cX5_pull 52 = .ok (.iadd, 1) := by decide +kernel
theorem dX5_pull_53 : decode cX5_pull 53 = .ok (.ireturn, 1) := by decide +kernel
theorem dX5_goes_0 : decode cX5_goes 0 = .ok (.aload_n 1, 1) := by decide +kernel
theorem dX5_goes_1 : decode cX5_goes 1 = .ok (.iload_n 2, 1) := by decide +kernel
theorem dX5_goes_2 : decode cX5_goes 2 = .ok (.iconst 4, 1) := by decide +kernel
theorem dX5_goes_3 : decode cX5_goes 3 = .ok (.invokestatic 58, 3) := by decide +kernel
theorem dX5_goes_6 : decode cX5_goes 6 = .ok (.iaload, 1) := by decide +kernel
theorem dX5_goes_7 : decode cX5_goes 7 = .ok (.istore_n 3, 1) := by decide +kernel
theorem dX5_goes_8 : decode cX5_goes 8 = .ok (.iload_n 3, 1) := by decide +kernel
theorem dX5_goes_9 : decode cX5_goes 9 = .ok (.istore 4, 2) := by decide +kernel
theorem dX5_goes_11 : decode cX5_goes 11 = .ok (.iconst 0, 1) := by decide +kernel
theorem dX5_goes_12 : decode cX5_goes 12 = .ok (.istore 5, 2) := by decide +kernel
theorem dX5_goes_14 : decode cX5_goes 14 = .ok (.iload 5, 2) := by decide +kernel
theorem dX5_goes_16 : decode cX5_goes 16 = .ok (.bipush 8, 2) := by decide +kernel
theorem dX5_goes_18 : decode cX5_goes 18 = .ok (.if_icmp .ge 45, 3) := by decide +kernel
theorem dX5_goes_21 : decode cX5_goes 21 = .ok (.aload_n 1, 1) := by decide +kernel
theorem dX5_goes_22 : decode cX5_goes 22 = .ok (.iconst 2, 1) := by decide +kernel
theorem dX5_goes_23 : decode cX5_goes 23 = .ok (.iload_n 3, 1) := by decide +kernel
theorem dX5_goes_24 : decode cX5_goes 24 = .ok (.iadd, 1) := by decide +kernel
theorem dX5_goes_25 : decode cX5_goes 25 = .ok (.iaload, 1) := by decide +kernel
theorem dX5_goes_26 : decode cX5_goes 26 = .ok (.iload 5, 2) := by decide +kernel
theorem dX5_goes_28 : decode cX5_goes 28 = .ok (.invokestatic 50, 3) := by decide +kernel
theorem dX5_goes_31 : decode cX5_goes 31 = .ok (.ifCond .eq 26, 3) := by decide +kernel
theorem dX5_goes_34 : decode cX5_goes 34 = .ok (.aload_n 0, 1) := by decide +kernel
theorem dX5_goes_35 : decode cX5_goes 35 = .ok (.aload_n 1, 1) := by decide +kernel
theorem dX5_goes_36 : decode cX5_goes 36 = .ok (.iload_n 2, 1) := by decide +kernel
theorem dX5_goes_37 : decode cX5_goes 37 = .ok (.iload 5, 2) := by decide +kernel
theorem dX5_goes_39 : decode cX5_goes 39 = .ok (.invokevirtual 61, 3) := by decide +kernel
theorem dX5_goes_42 : decode cX5_goes 42 = .ok (.aload_n 0, 1) := by decide +kernel
theorem dX5_goes_43 : decode cX5_goes 43 = .ok (.aload_n 1, 1) := by decide +kernel
theorem dX5_goes_44 : decode cX5_goes 44 = .ok (.iload_n 2, 1) := by decide +kernel
theorem dX5_goes_45 : decode cX5_goes 45 = .ok (.iload 4, 2) := by decide +kernel
theorem dX5_goes_47 : decode cX5_goes 47 = .ok (.invokevirtual 61, 3) := by decide +kernel
theorem dX5_goes_50 : decode cX5_goes 50 = .ok (.if_icmp .ge 7, 3) := by decide +kernel
theorem dX5_goes_53 : decode cX5_goes 53 = .ok (.iload 5, 2) := by decide +kernel
theorem dX5_goes_55 : decode cX5_goes 55 = .ok (.istore 4, 2) := by decide +kernel
theorem dX5_goes_57 : decode cX5_goes 57 = .ok (.iinc 5 1, 3) := by decide +kernel
theorem dX5_goes_60 : decode cX5_goes 60 = .ok (.goto (-46), 3) := by decide +kernel
theorem dX5_goes_63 : decode cX5_goes 63 = .ok (.aload_n 1, 1) := by decide +kernel
theorem dX5_goes_64 : decode cX5_goes 64 = .ok (.iload_n 2, 1) := by decide +kernel
theorem dX5_goes_65 : decode cX5_goes 65 = .ok (.iconst 4, 1) := by decide +kernel
theorem dX5_goes_66 : decode cX5_goes 66 = .ok (.invokestatic 58, 3) := by decide +kernel
theorem dX5_goes_69 : decode cX5_goes 69 = .ok (.iload 4, 2) := by decide +kernel
theorem dX5_goes_71 : decode cX5_goes 71 = .ok (.iastore, 1) := by decide +kernel
theorem dX5_goes_72 : decode cX5_goes 72 = .ok (.return_, 1) := by decide +kernel
theorem dX5_day_0 : decode cX5_day 0 = .ok (.aload_n 1, 1) := by decide +kernel
theorem dX5_day_1 : decode cX5_day 1 = .ok (.iconst 1, 1) := by decide +kernel
theorem dX5_day_2 : decode cX5_day 2 = .ok (.dup2, 1) := by decide +kernel
theorem dX5_day_3 : decode cX5_day 3 = .ok (.iaload, 1) := by decide +kernel
theorem dX5_day_4 : decode cX5_day 4 = .ok (.iconst 1, 1) := by decide +kernel
theorem dX5_day_5 : decode cX5_day 5 = .ok (.iadd, 1) := by decide +kernel
theorem dX5_day_6 : decode cX5_day 6 = .ok (.iastore, 1) := by decide +kernel
theorem dX5_day_7 : decode cX5_day 7 = .ok (.iconst 0, 1) := by decide +kernel
theorem dX5_day_8 : decode cX5_day 8 = .ok (.istore_n 3, 1) := by decide +kernel
theorem dX5_day_9 : decode cX5_day 9 = .ok (.iload_n 3, 1) := by decide +kernel
theorem dX5_day_10 : decode cX5_day 10 = .ok (.aload_n 1, 1) := by decide +kernel
theorem dX5_day_11 : decode cX5_day 11 = .ok (.iconst 0, 1) := by decide +kernel
theorem dX5_day_12 : decode cX5_day 12 = .ok (.iaload, 1) := by decide +kernel
theorem dX5_day_13 : decode cX5_day 13 = .ok (.if_icmp .ge 101, 3) := by decide +kernel
theorem dX5_day_16 : decode cX5_day 16 = .ok (.aload_n 1, 1) := by decide +kernel
theorem dX5_day_17 : decode cX5_day 17 = .ok (.iload_n 3, 1) := by decide +kernel
theorem dX5_day_18 : decode cX5_day 18 = .ok (.bipush 6, 2) := by decide +kernel
theorem dX5_day_20 : decode cX5_day 20 = .ok (.invokestatic 58, 3) := by decide +kernel
theorem dX5_day_23 : decode cX5_day 23 = .ok (.bipush 99, 2) := by decide +kernel
theorem dX5_day_25 : decode cX5_day 25 = .ok (.aload_n 1, 1) := by decide +kernel
theorem dX5_day_26 : decode cX5_day 26 = .ok (.iload_n 3, 1) := by decide +kernel
theorem dX5_day_27 : decode cX5_day 27 = .ok (.bipush 6, 2) := by decide +kernel
theorem dX5_day_29 : decode cX5_day 29 = .ok (.invokestatic 58, 3) := by decide +kernel
theorem dX5_day_32 : decode cX5_day 32 = .ok (.iaload, 1) := by decide +kernel
theorem dX5_day_33 : decode cX5_day 33 = .ok (.iconst 1, 1) := by decide +kernel
theorem dX5_day_34 : decode cX5_day 34 = .ok (.iadd, 1) := by decide +kernel
theorem dX5_day_35 : decode cX5_day 35 = .ok (.invokestatic 54, 3) := by decide +kernel
theorem dX5_day_38 : decode cX5_day 38 = .ok (.iastore, 1) := by decide +kernel
theorem dX5_day_39 : decode cX5_day 39 = .ok (.aload_n 1, 1) := by decide +kernel
theorem dX5_day_40 : decode cX5_day 40 = .ok (.iload_n 3, 1) := by decide +kernel
theorem dX5_day_41 : decode cX5_day 41 = .ok (.iconst 0, 1) := by decide +kernel
theorem dX5_day_42 : decode cX5_day 42 = .ok (.invokestatic 58, 3) := by decide +kernel
theorem dX5_day_45 : decode cX5_day 45 = .ok (.iaload, 1) := by decide +kernel
theorem dX5_day_46 : decode cX5_day 46 = .ok (.aload_n 1, 1) := by decide +kernel
theorem dX5_day_47 : decode cX5_day 47 = .ok (.iload_n 3, 1) := by decide +kernel
theorem dX5_day_48 : decode cX5_day 48 = .ok (.iconst 1, 1) := by decide +kernel
theorem dX5_day_49 : decode cX5_day 49 = .ok (.invokestatic 58, 3) := by decide +kernel
theorem dX5_day_52 : decode cX5_day 52 = .ok (.iaload, 1) := by decide +kernel
theorem dX5_day_53 : decode cX5_day 53 = .ok (.invokestatic 65, 3) := by decide +kernel
theorem dX5_day_56 : decode cX5_day 56 = .ok (.istore 4, 2) := by decide +kernel
theorem dX5_day_58 : decode cX5_day 58 = .ok (.iload 4, 2) := by decide +kernel
theorem dX5_day_60 : decode cX5_day 60 = .ok (.ifCond .le 38, 3) := by decide +kernel
theorem dX5_day_63 : decode cX5_day 63 = .ok (.aload_n 1, 1) := by decide +kernel
theorem dX5_day_64 : decode cX5_day 64 = .ok (.iload_n 3, 1) := by decide +kernel
theorem dX5_day_65 : decode cX5_day 65 = .ok (.bipush 6, 2) := by decide +kernel
theorem dX5_day_67 : decode cX5_day 67 = .ok (.invokestatic 58, 3) := by decide +kernel
theorem dX5_day_70 : decode cX5_day 70 = .ok (.iaload, 1) := by decide +kernel
theorem dX5_day_71 : decode cX5_day 71 = .ok (.iload 4, 2) := by decide +kernel
theorem dX5_day_73 : decode cX5_day 73 = .ok (.irem, 1) := by decide +kernel
theorem dX5_day_74 : decode cX5_day 74 = .ok (.ifCond .ne 24, 3) := by decide +kernel
theorem dX5_day_77 : decode cX5_day 77 = .ok (.aload_n 1, 1) := by decide +kernel
theorem dX5_day_78 : decode cX5_day 78 = .ok (.iload_n 3, 1) := by decide +kernel
theorem dX5_day_79 : decode cX5_day 79 = .ok (.iconst 5, 1) := by decide +kernel
theorem dX5_day_80 : decode cX5_day 80 = .ok (.invokestatic 58, 3) := by decide +kernel
theorem dX5_day_83 : decode cX5_day 83 = .ok (.iaload, 1) := by decide +kernel
theorem dX5_day_84 : decode cX5_day 84 = .ok (.ifCond .le 14, 3) := by decide +kernel
theorem dX5_day_87 : decode cX5_day 87 = .ok (.aload_n 1, 1) := by decide +kernel
theorem dX5_day_88 : decode cX5_day 88 = .ok (.iload_n 3, 1) := by decide +kernel
theorem dX5_day_89 : decode cX5_day 89 = .ok (.iconst 5, 1) := by decide +kernel
theorem dX5_day_90 : decode cX5_day 90 = .ok (.invokestatic 58, 3) := by decide +kernel
theorem dX5_day_93 : decode cX5_day 93 = .ok (.dup2, 1) := by decide +kernel
theorem dX5_day_94 : decode cX5_day 94 = .ok (.iaload, 1) := by decide +kernel
theorem dX5_day_95 : decode cX5_day 95 = .ok (.iconst 1, 1) := by decide +kernel
theorem dX5_day_96 : decode cX5_day 96 = .ok (.isub, 1) := by decide +kernel
theorem dX5_day_97 : decode cX5_day 97 = .ok (.iastore, 1) := by decide +kernel
theorem dX5_day_98 : decode cX5_day 98 = .ok (.iload_n 2, 1) := by decide +kernel
theorem dX5_day_99 : decode cX5_day 99 = .ok (.ifCond .ne 9, 3) := by decide +kernel
theorem dX5_day_102 : decode cX5_day 102 = .ok (.aload_n 0, 1) := by decide +kernel
theorem dX5_day_103 : decode cX5_day 103 = .ok (.aload_n 1, 1) := by decide +kernel
theorem dX5_day_104 : decode cX5_day 104 = .ok (.iload_n 3, 1) := by decide +kernel
theorem dX5_day_105 : decode cX5_day 105 = .ok (.invokevirtual 68, 3) := by decide +kernel
theorem dX5_day_108 : decode cX5_day 108 = .ok (.iinc 3 1, 3) := by decide +kernel
theorem dX5_day_111 : decode cX5_day 111 = .ok (.goto (-102), 3) := by decide +kernel
theorem dX5_day_114 : decode cX5_day 114 = .ok (.return_, 1) := by decide +kernel
theorem dX5_daysOn_0 : decode cX5_daysOn 0 = .ok (.aload_n 0, 1) := by decide +kernel
theorem dX5_daysOn_1 : decode cX5_daysOn 1 = .ok (.aload_n 1, 1) := by decide +kernel
theorem dX5_daysOn_2 : decode cX5_daysOn 2 = .ok (.invokevirtual 72, 3) := by decide +kernel
theorem dX5_daysOn_5 : decode cX5_daysOn 5 = .ok (.iconst 0, 1) := by decide +kernel
theorem dX5_daysOn_6 : decode cX5_daysOn 6 = .ok (.istore_n 3, 1) := by decide +kernel
theorem dX5_daysOn_7 : decode cX5_daysOn 7 = .ok (.iload_n 3, 1) := by decide +kernel
theorem dX5_daysOn_8 : decode cX5_daysOn 8 = .ok (.iload_n 2, 1) := by decide +kernel
theorem dX5_daysOn_9 : decode cX5_daysOn 9 = .ok (.if_icmp .ge 15, 3) := by decide +kernel
theorem dX5_daysOn_12 : decode cX5_daysOn 12 = .ok (.aload_n 0, 1) := by decide +kernel
theorem dX5_daysOn_13 : decode cX5_daysOn 13 = .ok (.aload_n 1, 1) := by decide +kernel
theorem dX5_daysOn_14 : decode cX5_daysOn 14 = .ok (.iconst 0, 1) := by decide +kernel
theorem dX5_daysOn_15 : decode cX5_daysOn 15 = .ok (.invokevirtual 76, 3) := by decide +kernel
theorem dX5_daysOn_18 : decode cX5_daysOn 18 = .ok (.iinc 3 1, 3) := by decide +kernel
theorem dX5_daysOn_21 : decode cX5_daysOn 21 = .ok (.goto (-14), 3) := by decide +kernel
theorem dX5_daysOn_24 : decode cX5_daysOn 24 = .ok (.return_, 1) := by decide +kernel
theorem dX5_isShod_0 : decode cX5_isShod 0 = .ok (.aload_n 0, 1) := by decide +kernel
theorem dX5_isShod_1 : decode cX5_isShod 1 = .ok (.iload_n 1, 1) := by decide +kernel
theorem dX5_isShod_2 : decode cX5_isShod 2 = .ok (.iconst 5, 1) := by decide +kernel
theorem dX5_isShod_3 : decode cX5_isShod 3 = .ok (.invokestatic 58, 3) := by decide +kernel
theorem dX5_isShod_6 : decode cX5_isShod 6 = .ok (.aload_n 0, 1) := by decide +kernel
theorem dX5_isShod_7 : decode cX5_isShod 7 = .ok (.iload_n 1, 1) := by decide +kernel
theorem dX5_isShod_8 : decode cX5_isShod 8 = .ok (.iconst 0, 1) := by decide +kernel
theorem dX5_isShod_9 : decode cX5_isShod 9 = .ok (.invokestatic 58, 3) := by decide +kernel
theorem dX5_isShod_12 : decode cX5_isShod 12 = .ok (.iaload, 1) := by decide +kernel
theorem dX5_isShod_13 : decode cX5_isShod 13 = .ok (.invokestatic 80, 3) := by decide +kernel
theorem dX5_isShod_16 : decode cX5_isShod 16 = .ok (.iastore, 1) := by decide +kernel
theorem dX5_isShod_17 : decode cX5_isShod 17 = .ok (.aload_n 0, 1) := by decide +kernel
theorem dX5_isShod_18 : decode cX5_isShod 18 = .ok (.iload_n 1, 1) := by decide +kernel
theorem dX5_isShod_19 : decode cX5_isShod 19 = .ok (.bipush 6, 2) := by decide +kernel
theorem dX5_isShod_21 : decode cX5_isShod 21 = .ok (.invokestatic 58, 3) := by decide +kernel
theorem dX5_isShod_24 : decode cX5_isShod 24 = .ok (.iconst 0, 1) := by decide +kernel
theorem dX5_isShod_25 : decode cX5_isShod 25 = .ok (.iastore, 1) := by decide +kernel
theorem dX5_isShod_26 : decode cX5_isShod 26 = .ok (.return_, 1) := by decide +kernel
theorem dX5_atSaid_0 : decode cX5_atSaid 0 = .ok (.iconst 0, 1) := by decide +kernel
theorem dX5_atSaid_1 : decode cX5_atSaid 1 = .ok (.istore_n 1, 1) := by decide +kernel
theorem dX5_atSaid_2 : decode cX5_atSaid 2 = .ok (.iconst 0, 1) := by decide +kernel
theorem dX5_atSaid_3 : decode cX5_atSaid 3 = .ok (.istore_n 2, 1) := by decide +kernel
theorem dX5_atSaid_4 : decode cX5_atSaid 4 = .ok (.iload_n 2, 1) := by decide +kernel
theorem dX5_atSaid_5 : decode cX5_atSaid 5 = .ok (.aload_n 0, 1) := by decide +kernel
theorem dX5_atSaid_6 : decode cX5_atSaid 6 = .ok (.iconst 0, 1) := by decide +kernel
theorem dX5_atSaid_7 : decode cX5_atSaid 7 = .ok (.iaload, 1) := by decide +kernel
theorem dX5_atSaid_8 : decode cX5_atSaid 8 = .ok (.if_icmp .ge 36, 3) := by decide +kernel
theorem dX5_atSaid_11 : decode cX5_atSaid 11 = .ok (.iload_n 1, 1) := by decide +kernel
theorem dX5_atSaid_12 : decode cX5_atSaid 12 = .ok (.aload_n 0, 1) := by decide +kernel
theorem dX5_atSaid_13 : decode cX5_atSaid 13 = .ok (.iload_n 2, 1) := by decide +kernel
theorem dX5_atSaid_14 : decode cX5_atSaid 14 = .ok (.iconst 4, 1) := by decide +kernel
theorem dX5_atSaid_15 : decode cX5_atSaid 15 = .ok (.invokestatic 58, 3) := by decide +kernel
theorem dX5_atSaid_18 : decode cX5_atSaid 18 = .ok (.iaload, 1) := by decide +kernel
theorem dX5_atSaid_19 : decode cX5_atSaid 19 = .ok (.aload_n 0, 1) := by decide +kernel
theorem dX5_atSaid_20 : decode cX5_atSaid 20 = .ok (.iload_n 2, 1) := by decide +kernel
theorem dX5_atSaid_21 : decode cX5_atSaid 21 = .ok (.iconst 3, 1) := by decide +kernel
theorem dX5_atSaid_22 : decode cX5_atSaid 22 = .ok (.invokestatic 58, 3) := by decide +kernel
theorem dX5_atSaid_25 : decode cX5_atSaid 25 = .ok (.iaload, 1) := by decide +kernel
theorem dX5_atSaid_26 : decode cX5_atSaid 26 = .ok (.if_icmp .ne 9, 3) := by decide +kernel
theorem dX5_atSaid_29 : decode cX5_atSaid 29 = .ok (.iconst 1, 1) := by decide +kernel
theorem dX5_atSaid_30 : decode cX5_atSaid 30 = .ok (.iload_n 2, 1) := by decide +kernel
theorem dX5_atSaid_31 : decode cX5_atSaid 31 = .ok (.ishl, 1) := by decide +kernel
theorem dX5_atSaid_32 : decode cX5_atSaid 32 = .ok (.goto 4, 3) := by decide +kernel
theorem dX5_atSaid_35 : decode cX5_atSaid 35 = .ok (.iconst 0, 1) := by decide +kernel
theorem dX5_atSaid_36 : decode cX5_atSaid 36 = .ok (.ior, 1) := by decide +kernel
theorem dX5_atSaid_37 : decode cX5_atSaid 37 = .ok (.istore_n 1, 1) := by decide +kernel
theorem dX5_atSaid_38 : decode cX5_atSaid 38 = .ok (.iinc 2 1, 3) := by decide +kernel
theorem dX5_atSaid_41 : decode cX5_atSaid 41 = .ok (.goto (-37), 3) := by decide +kernel
theorem dX5_atSaid_44 : decode cX5_atSaid 44 = .ok (.iload_n 1, 1) := by decide +kernel
theorem dX5_atSaid_45 : decode cX5_atSaid 45 = .ok (.ireturn, 1) := by decide +kernel
theorem dX5_turnsRoad_0 : decode cX5_turnsRoad 0 = .ok (.aload_n 0, 1) := by decide +kernel
theorem dX5_turnsRoad_1 : decode cX5_turnsRoad 1 = .ok (.iconst 2, 1) := by decide +kernel
theorem dX5_turnsRoad_2 : decode cX5_turnsRoad 2 = .ok (.iload_n 1, 1) := by decide +kernel
theorem dX5_turnsRoad_3 : decode cX5_turnsRoad 3 = .ok (.iadd, 1) := by decide +kernel
theorem dX5_turnsRoad_4 : decode cX5_turnsRoad 4 = .ok (.dup2, 1) := by decide +kernel
theorem dX5_turnsRoad_5 : decode cX5_turnsRoad 5 = .ok (.iaload, 1) := by decide +kernel
theorem dX5_turnsRoad_6 : decode cX5_turnsRoad 6 = .ok (.iconst 1, 1) := by decide +kernel
theorem dX5_turnsRoad_7 : decode cX5_turnsRoad 7 = .ok (.iload_n 2, 1) := by decide +kernel
theorem dX5_turnsRoad_8 : decode cX5_turnsRoad 8 = .ok (.ishl, 1) := by decide +kernel
theorem dX5_turnsRoad_9 : decode cX5_turnsRoad 9 = .ok (.ixor, 1) := by decide +kernel
theorem dX5_turnsRoad_10 : decode cX5_turnsRoad 10 = .ok (.iastore, 1) := by decide +kernel
theorem dX5_turnsRoad_11 : decode cX5_turnsRoad 11 = .ok (.aload_n 0, 1) := by decide +kernel
theorem dX5_turnsRoad_12 : decode cX5_turnsRoad 12 = .ok (.iconst 2, 1) := by decide +kernel
theorem dX5_turnsRoad_13 : decode cX5_turnsRoad 13 = .ok (.iload_n 2, 1) := by decide +kernel
theorem dX5_turnsRoad_14 : decode cX5_turnsRoad 14 = .ok (.iadd, 1) := by decide +kernel
theorem dX5_turnsRoad_15 : decode cX5_turnsRoad 15 = .ok (.dup2, 1) := by decide +kernel
theorem dX5_turnsRoad_16 : decode cX5_turnsRoad 16 = .ok (.iaload, 1) := by decide +kernel
theorem dX5_turnsRoad_17 : decode cX5_turnsRoad 17 = .ok (.iconst 1, 1) := by decide +kernel
theorem dX5_turnsRoad_18 : decode cX5_turnsRoad 18 = .ok (.iload_n 1, 1) := by decide +kernel
theorem dX5_turnsRoad_19 : decode cX5_turnsRoad 19 = .ok (.ishl, 1) := by decide +kernel
theorem dX5_turnsRoad_20 : decode cX5_turnsRoad 20 = .ok (.ixor, 1) := by decide +kernel
theorem dX5_turnsRoad_21 : decode cX5_turnsRoad 21 = .ok (.iastore, 1) := by decide +kernel
theorem dX5_turnsRoad_22 : decode cX5_turnsRoad 22 = .ok (.return_, 1) := by decide +kernel
theorem dX5_letter_0 : decode cX5_letter 0 = .ok (.iload_n 1, 1) := by decide +kernel
theorem dX5_letter_1 : decode cX5_letter 1 = .ok (.ifCond .ge 10, 3) := by decide +kernel
theorem dX5_letter_4 : decode cX5_letter 4 = .ok (.aload_n 0, 1) := by decide +kernel
theorem dX5_letter_5 : decode cX5_letter 5 = .ok (.bipush (-4), 2) := by decide +kernel
theorem dX5_letter_7 : decode cX5_letter 7 = .ok (.invokevirtual 42, 3) := by decide +kernel
theorem dX5_letter_10 : decode cX5_letter 10 = .ok (.ireturn, 1) := by decide +kernel
theorem dX5_letter_11 : decode cX5_letter 11 = .ok (.iload_n 1, 1) := by decide +kernel
theorem dX5_letter_12 : decode cX5_letter 12 = .ok (.sipush 255, 3) := by decide +kernel
theorem dX5_letter_15 : decode cX5_letter 15 = .ok (.if_icmp .gt 12, 3) := by decide +kernel
theorem dX5_letter_18 : decode cX5_letter 18 = .ok (.aload_n 0, 1) := by decide +kernel
theorem dX5_letter_19 : decode cX5_letter 19 = .ok (.getfield 83, 3) := by decide +kernel
theorem dX5_letter_22 : decode cX5_letter 22 = .ok (.bipush 96, 2) := by decide +kernel
theorem dX5_letter_24 : decode cX5_letter 24 = .ok (.if_icmp .ne 10, 3) := by decide +kernel
theorem dX5_letter_27 : decode cX5_letter 27 = .ok (.aload_n 0, 1) := by decide +kernel
theorem dX5_letter_28 : decode cX5_letter 28 = .ok (.bipush (-6), 2) := by decide +kernel
theorem dX5_letter_30 : decode cX5_letter 30 = .ok (.invokevirtual 42, 3) := by decide +kernel
theorem dX5_letter_33 : decode cX5_letter 33 = .ok (.ireturn, 1) := by decide +kernel
theorem dX5_letter_34 : decode cX5_letter 34 = .ok (.aload_n 0, 1) := by decide +kernel
theorem dX5_letter_35 : decode cX5_letter 35 = .ok (.getfield 25, 3) := by decide +kernel
theorem dX5_letter_38 : decode cX5_letter 38 = .ok (.aload_n 0, 1) := by decide +kernel
theorem dX5_letter_39 : decode cX5_letter 39 = .ok (.getfield 83, 3) := by decide +kernel
theorem dX5_letter_42 : decode cX5_letter 42 = .ok (.iload_n 1, 1) := by decide +kernel
theorem dX5_letter_43 : decode cX5_letter 43 = .ok (.iastore, 1) := by decide +kernel
theorem dX5_letter_44 : decode cX5_letter 44 = .ok (.aload_n 0, 1) := by decide +kernel
theorem dX5_letter_45 : decode cX5_letter 45 = .ok (.dup, 1) := by decide +kernel
theorem dX5_letter_46 : decode cX5_letter 46 = .ok (.getfield 83, 3) := by decide +kernel
theorem dX5_letter_49 : decode cX5_letter 49 = .ok (.iconst 1, 1) := by decide +kernel
theorem dX5_letter_50 : decode cX5_letter 50 = .ok (.iadd, 1) := by decide +kernel
theorem dX5_letter_51 : decode cX5_letter 51 = .ok (.putfield 83, 3) := by decide +kernel
theorem dX5_letter_54 : decode cX5_letter 54 = .ok (.aload_n 0, 1) := by decide +kernel
theorem dX5_letter_55 : decode cX5_letter 55 = .ok (.getfield 83, 3) := by decide +kernel
theorem dX5_letter_58 : decode cX5_letter 58 = .ok (.ireturn, 1) := by decide +kernel
theorem dX5_here_0 : decode cX5_here 0 = .ok (.aload_n 0, 1) := by decide +kernel
theorem dX5_here_1 : decode cX5_here 1 = .ok (.getfield 87, 3) := by decide +kernel
theorem dX5_here_4 : decode cX5_here 4 = .ok (.aload_n 0, 1) := by decide +kernel
theorem dX5_here_5 : decode cX5_here 5 = .ok (.getfield 83, 3) := by decide +kernel
theorem dX5_here_8 : decode cX5_here 8 = .ok (.if_icmp .ge 15, 3) := by decide +kernel
theorem dX5_here_11 : decode cX5_here 11 = .ok (.aload_n 0, 1) := by decide +kernel
theorem dX5_here_12 : decode cX5_here 12 = .ok (.getfield 25, 3) := by decide +kernel
theorem dX5_here_15 : decode cX5_here 15 = .ok (.aload_n 0, 1) := by decide +kernel
theorem dX5_here_16 : decode cX5_here 16 = .ok (.getfield 87, 3) := by decide +kernel
theorem dX5_here_19 : decode cX5_here 19 = .ok (.iaload, 1) := by decide +kernel
theorem dX5_here_20 : decode cX5_here 20 = .ok (.goto 4, 3) := by decide +kernel
theorem dX5_here_23 : decode cX5_here 23 = .ok (.iconst (-1), 1) := by decide +kernel
theorem dX5_here_24 : decode cX5_here 24 = .ok (.ireturn, 1) := by decide +kernel
theorem dX5_readsNumber_0 : decode cX5_readsNumber 0 = .ok (.aload_n 0, 1) := by decide +kernel
theorem dX5_readsNumber_1 : decode cX5_readsNumber 1 = .ok (.getfield 34, 3) := by decide +kernel
theorem dX5_readsNumber_4 : decode cX5_readsNumber 4 = .ok (.iload_n 1, 1) := by decide +kernel
theorem dX5_readsNumber_5 : decode cX5_readsNumber 5 = .ok (.iconst 0, 1) := by decide +kernel
theorem dX5_readsNumber_6 : decode cX5_readsNumber 6 = .ok (.iastore, 1) := by decide +kernel
theorem dX5_readsNumber_7 : decode cX5_readsNumber 7 = .ok (.iconst 0, 1) := by decide +kernel
theorem dX5_readsNumber_8 : decode cX5_readsNumber 8 = .ok (.istore_n 3, 1) := by decide +kernel
theorem dX5_readsNumber_9 : decode cX5_readsNumber 9 = .ok (.iload_n 3, 1) := by decide +kernel
theorem dX5_readsNumber_10 : decode cX5_readsNumber 10 = .ok (.iload_n 2, 1) := by decide +kernel
theorem dX5_readsNumber_11 : decode cX5_readsNumber 11 = .ok (.if_icmp .ge 58, 3) := by decide +kernel
theorem dX5_readsNumber_14 : decode cX5_readsNumber 14 = .ok (.aload_n 0, 1) := by decide +kernel
theorem dX5_readsNumber_15 : decode cX5_readsNumber 15 = .ok (.invokevirtual 90, 3) := by decide +kernel
theorem dX5_readsNumber_18 : decode cX5_readsNumber 18 = .ok (.bipush 48, 2) := by decide +kernel
theorem dX5_readsNumber_20 : decode cX5_readsNumber 20 = .ok (.bipush 57, 2) := by decide +kernel
theorem dX5_readsNumber_22 : decode cX5_readsNumber 22 = .ok (.invokestatic 46, 3) := by decide +kernel
theorem dX5_readsNumber_25 : decode cX5_readsNumber 25 = .ok (.ifCond .ne 5, 3) := by decide +kernel
theorem dX5_readsNumber_28 : decode cX5_readsNumber 28 = .ok (.iconst 0, 1) := by decide +kernel
theorem dX5_readsNumber_29 : decode cX5_readsNumber 29 = .ok (.ireturn, 1) := by decide +kernel
theorem dX5_readsNumber_30 : decode cX5_readsNumber 30 = .ok (.aload_n 0, 1) := by decide +kernel
theorem dX5_readsNumber_31 : decode cX5_readsNumber 31 = .ok (.getfield 34, 3) := by decide +kernel
theorem dX5_readsNumber_34 : decode cX5_readsNumber 34 = .ok (.iload_n 1, 1) := by decide +kernel
theorem dX5_readsNumber_35 : decode cX5_readsNumber 35 = .ok (.bipush 10, 2) := by decide +kernel
theorem dX5_readsNumber_37 : decode cX5_readsNumber 37 = .ok (.aload_n 0, 1) := by decide +kernel
theorem dX5_readsNumber_38 : decode cX5_readsNumber 38 = .ok (.getfield 34, 3) := by decide +kernel
theorem dX5_readsNumber_41 : decode cX5_readsNumber 41 = .ok (.iload_n 1, 1) := by decide +kernel
theorem dX5_readsNumber_42 : decode cX5_readsNumber 42 = .ok (.iaload, 1) := by decide +kernel
theorem dX5_readsNumber_43 : decode cX5_readsNumber 43 = .ok (.imul, 1) := by decide +kernel
theorem dX5_readsNumber_44 : decode cX5_readsNumber 44 = .ok (.aload_n 0, 1) := by decide +kernel
theorem dX5_readsNumber_45 : decode cX5_readsNumber 45 = .ok (.invokevirtual 90, 3) := by decide +kernel
theorem dX5_readsNumber_48 : decode cX5_readsNumber 48 = .ok (.iadd, 1) := by decide +kernel
theorem dX5_readsNumber_49 : decode cX5_readsNumber 49 = .ok (.bipush 48, 2) := by decide +kernel
theorem dX5_readsNumber_51 : decode cX5_readsNumber 51 = .ok (.isub, 1) := by decide +kernel
theorem dX5_readsNumber_52 : decode cX5_readsNumber 52 = .ok (.iastore, 1) := by decide +kernel
theorem dX5_readsNumber_53 : decode cX5_readsNumber 53 = .ok (.aload_n 0, 1) := by decide +kernel
theorem dX5_readsNumber_54 : decode cX5_readsNumber 54 = .ok (.dup, 1) := by decide +kernel
theorem dX5_readsNumber_55 : decode cX5_readsNumber 55 = .ok (.getfield 87, 3) := by decide +kernel
theorem dX5_readsNumber_58 : decode cX5_readsNumber 58 = .ok (.iconst 1, 1) := by decide +kernel
theorem dX5_readsNumber_59 : decode cX5_readsNumber 59 = .ok (.iadd, 1) := by decide +kernel
theorem dX5_readsNumber_60 : decode cX5_readsNumber 60 = .ok (.putfield 87, 3) := by decide +kernel
theorem dX5_readsNumber_63 : decode cX5_readsNumber 63 = .ok (.iinc 3 1, 3) := by decide +kernel
theorem dX5_readsNumber_66 : decode cX5_readsNumber 66 = .ok (.goto (-57), 3) := by decide +kernel
theorem dX5_readsNumber_69 : decode cX5_readsNumber 69 = .ok (.iconst 1, 1) := by decide +kernel
theorem dX5_readsNumber_70 : decode cX5_readsNumber 70 = .ok (.ireturn, 1) := by decide +kernel
theorem dX5_kindBy_0 : decode cX5_kindBy 0 = .ok (.iload_n 0, 1) := by decide +kernel
theorem dX5_kindBy_1 : decode cX5_kindBy 1 = .ok (.lookupswitch 71 #[(98, 61), (109, 65), (112, 67), (114, 59), (117, 63), (120, 69)], 59) := by decide +kernel
theorem dX5_kindBy_60 : decode cX5_kindBy 60 = .ok (.iconst 0, 1) := by decide +kernel
theorem dX5_kindBy_61 : decode cX5_kindBy 61 = .ok (.ireturn, 1) := by decide +kernel
theorem dX5_kindBy_62 : decode cX5_kindBy 62 = .ok (.iconst 1, 1) := by decide +kernel
theorem dX5_kindBy_63 : decode cX5_kindBy 63 = .ok (.ireturn, 1) := by decide +kernel
theorem dX5_kindBy_64 : decode cX5_kindBy 64 = .ok (.iconst 2, 1) := by decide +kernel
theorem dX5_kindBy_65 : decode cX5_kindBy 65 = .ok (.ireturn, 1) := by decide +kernel
theorem dX5_kindBy_66 : decode cX5_kindBy 66 = .ok (.iconst 3, 1) := by decide +kernel
theorem dX5_kindBy_67 : decode cX5_kindBy 67 = .ok (.ireturn, 1) := by decide +kernel
theorem dX5_kindBy_68 : decode cX5_kindBy 68 = .ok (.iconst 4, 1) := by decide +kernel
theorem dX5_kindBy_69 : decode cX5_kindBy 69 = .ok (.ireturn, 1) := by decide +kernel
theorem dX5_kindBy_70 : decode cX5_kindBy 70 = .ok (.iconst 5, 1) := by decide +kernel
theorem dX5_kindBy_71 : decode cX5_kindBy 71 = .ok (.ireturn, 1) := by decide +kernel
theorem dX5_kindBy_72 : decode cX5_kindBy 72 = .ok (.bipush (-9), 2) := by decide +kernel
theorem dX5_kindBy_74 : decode cX5_kindBy 74 = .ok (.ireturn, 1) := by decide +kernel
theorem dX5_readsKind_0 : decode cX5_readsKind 0 = .ok (.aload_n 0, 1) := by decide +kernel
theorem dX5_readsKind_1 : decode cX5_readsKind 1 = .ok (.getfield 34, 3) := by decide +kernel
theorem dX5_readsKind_4 : decode cX5_readsKind 4 = .ok (.iconst 0, 1) := by decide +kernel
theorem dX5_readsKind_5 : decode cX5_readsKind 5 = .ok (.aload_n 0, 1) := by decide +kernel
theorem dX5_readsKind_6 : decode cX5_readsKind 6 = .ok (.invokevirtual 90, 3) := by decide +kernel
theorem dX5_readsKind_9 : decode cX5_readsKind 9 = .ok (.invokestatic 94, 3) := by decide +kernel
theorem dX5_readsKind_12 : decode cX5_readsKind 12 = .ok (.iastore, 1) := by decide +kernel
theorem dX5_readsKind_13 : decode cX5_readsKind 13 = .ok (.aload_n 0, 1) := by decide +kernel
theorem dX5_readsKind_14 : decode cX5_readsKind 14 = .ok (.dup, 1) := by decide +kernel
theorem dX5_readsKind_15 : decode cX5_readsKind 15 = .ok (.getfield 87, 3) := by decide +kernel
theorem dX5_readsKind_18 : decode cX5_readsKind 18 = .ok (.aload_n 0, 1) := by decide +kernel
theorem dX5_readsKind_19 : decode cX5_readsKind 19 = .ok (.getfield 34, 3) := by decide +kernel
theorem dX5_readsKind_22 : decode cX5_readsKind 22 = .ok (.iconst 0, 1) := by decide +kernel
theorem dX5_readsKind_23 : decode cX5_readsKind 23 = .ok (.iaload, 1) := by decide +kernel
theorem dX5_readsKind_24 : decode cX5_readsKind 24 = .ok (.ifCond .ge 7, 3) := by decide +kernel
theorem dX5_readsKind_27 : decode cX5_readsKind 27 = .ok (.iconst 0, 1) := by decide +kernel
theorem dX5_readsKind_28 : decode cX5_readsKind 28 = .ok (.goto 4, 3) := by decide +kernel
theorem dX5_readsKind_31 : decode cX5_readsKind 31 = .ok (.iconst 1, 1) := by decide +kernel
theorem dX5_readsKind_32 : decode cX5_readsKind 32 = .ok (.iadd, 1) := by decide +kernel
theorem dX5_readsKind_33 : decode cX5_readsKind 33 = .ok (.putfield 87, 3) := by decide +kernel
theorem dX5_readsKind_36 : decode cX5_readsKind 36 = .ok (.aload_n 0, 1) := by decide +kernel
theorem dX5_readsKind_37 : decode cX5_readsKind 37 = .ok (.getfield 34, 3) := by decide +kernel
theorem dX5_readsKind_40 : decode cX5_readsKind 40 = .ok (.iconst 0, 1) := by decide +kernel
theorem dX5_readsKind_41 : decode cX5_readsKind 41 = .ok (.iaload, 1) := by decide +kernel
theorem dX5_readsKind_42 : decode cX5_readsKind 42 = .ok (.ifCond .lt 7, 3) := by decide +kernel
theorem dX5_readsKind_45 : decode cX5_readsKind 45 = .ok (.iconst 1, 1) := by decide +kernel
theorem dX5_readsKind_46 : decode cX5_readsKind 46 = .ok (.goto 4, 3) := by decide +kernel
theorem dX5_readsKind_49 : decode cX5_readsKind 49 = .ok (.iconst 0, 1) := by decide +kernel
theorem dX5_readsKind_50 : decode cX5_readsKind 50 = .ok (.ireturn, 1) := by decide +kernel
theorem dX5_readsStatement_0 : decode cX5_readsStatement 0 = .ok (.aload_n 0, 1) := by decide +kernel
theorem dX5_readsStatement_1 : decode cX5_readsStatement 1 = .ok (.invokevirtual 90, 3) := by decide +kernel
theorem dX5_readsStatement_4 : decode cX5_readsStatement 4 = .ok (.istore_n 1, 1) := by decide +kernel
theorem dX5_readsStatement_5 : decode cX5_readsStatement 5 = .ok (.aload_n 0, 1) := by decide +kernel
theorem dX5_readsStatement_6 : decode cX5_readsStatement 6 = .ok (.dup, 1) := by decide +kernel
theorem dX5_readsStatement_7 : decode cX5_readsStatement 7 = .ok (.getfield 87, 3) := by decide +kernel
theorem dX5_readsStatement_10 : decode cX5_readsStatement 10 = .ok (.iconst 1, 1) := by decide +kernel
theorem dX5_readsStatement_11 : decode cX5_readsStatement 11 = .ok (.iadd, 1) := by decide +kernel
theorem dX5_readsStatement_12 : decode cX5_readsStatement 12 = .ok (.putfield 87, 3) := by decide +kernel
theorem dX5_readsStatement_15 : decode cX5_readsStatement 15 = .ok (.iload_n 1, 1) := by decide +kernel
theorem dX5_readsStatement_16 : decode cX5_readsStatement 16 = .ok (.lookupswitch 159 #[(97, 60), (100, 149), (104, 87), (114, 60), (115, 139), (119, 60)], 60) := by decide +kernel
theorem dX5_readsStatement_76 : decode cX5_readsStatement 76 = .ok (.aload_n 0, 1) := by decide +kernel
theorem dX5_readsStatement_77 : decode cX5_readsStatement 77 = .ok (.iconst 0, 1) := by decide +kernel
theorem dX5_readsStatement_78 : decode cX5_readsStatement 78 = .ok (.iconst 1, 1) := by decide +kernel
theorem dX5_readsStatement_79 : decode cX5_readsStatement 79 = .ok (.invokevirtual 97, 3) := by decide +kernel
theorem dX5_readsStatement_82 : decode cX5_readsStatement 82 = .ok (.ifCond .eq 16, 3) := by decide +kernel
theorem dX5_readsStatement_85 : decode cX5_readsStatement 85 = .ok (.aload_n 0, 1) := by decide +kernel
theorem dX5_readsStatement_86 : decode cX5_readsStatement 86 = .ok (.iconst 1, 1) := by decide +kernel
theorem dX5_readsStatement_87 : decode cX5_readsStatement 87 = .ok (.iconst 1, 1) := by decide +kernel
theorem dX5_readsStatement_88 : decode cX5_readsStatement 88 = .ok (.invokevirtual 97, 3) := by decide +kernel
theorem dX5_readsStatement_91 : decode cX5_readsStatement 91 = .ok (.ifCond .eq 7, 3) := by decide +kernel
theorem dX5_readsStatement_94 : decode cX5_readsStatement 94 = .ok (.iconst 1, 1) := by decide +kernel
theorem dX5_readsStatement_95 : decode cX5_readsStatement 95 = .ok (.goto 4, 3) := by decide +kernel
theorem dX5_readsStatement_98 : decode cX5_readsStatement 98 = .ok (.iconst 0, 1) := by decide +kernel
theorem dX5_readsStatement_99 : decode cX5_readsStatement 99 = .ok (.istore_n 2, 1) := by decide +kernel
theorem dX5_readsStatement_100 : decode cX5_readsStatement 100 = .ok (.goto 87, 3) := by decide +kernel
theorem dX5_readsStatement_103 : decode cX5_readsStatement 103 = .ok (.aload_n 0, 1) := by decide +kernel
theorem dX5_readsStatement_104 : decode cX5_readsStatement 104 = .ok (.invokevirtual 100, 3) := by decide +kernel
theorem dX5_readsStatement_107 : decode cX5_readsStatement 107 = .ok (.ifCond .eq 43, 3) := by decide +kernel
theorem dX5_readsStatement_110 : decode cX5_readsStatement 110 = .ok (.aload_n 0, 1) := by decide +kernel
theorem dX5_readsStatement_111 : decode cX5_readsStatement 111 = .ok (.iconst 1, 1) := by decide +kernel
theorem dX5_readsStatement_112 : decode cX5_readsStatement 112 = .ok (.iconst 1, 1) := by decide +kernel
theorem dX5_readsStatement_113 : decode cX5_readsStatement 113 = .ok (.invokevirtual 97, 3) := by decide +kernel
theorem dX5_readsStatement_116 : decode cX5_readsStatement 116 = .ok (.ifCond .eq 34, 3) := by decide +kernel
theorem dX5_readsStatement_119 : decode cX5_readsStatement 119 = .ok (.aload_n 0, 1) := by decide +kernel
theorem dX5_readsStatement_120 : decode cX5_readsStatement 120 = .ok (.iconst 2, 1) := by decide +kernel
theorem dX5_readsStatement_121 : decode cX5_readsStatement 121 = .ok (.iconst 1, 1) := by decide +kernel
theorem dX5_readsStatement_122 : decode cX5_readsStatement 122 = .ok (.invokevirtual 97, 3) := by decide +kernel
theorem dX5_readsStatement_125 : decode cX5_readsStatement 125 = .ok (.ifCond .eq 25, 3) := by decide +kernel
theorem dX5_readsStatement_128 : decode cX5_readsStatement 128 = .ok (.aload_n 0, 1) := by decide +kernel
theorem dX5_readsStatement_129 : decode cX5_readsStatement 129 = .ok (.iconst 3, 1) := by decide +kernel
theorem dX5_readsStatement_130 : decode cX5_readsStatement 130 = .ok (.iconst 1, 1) := by decide +kernel
theorem dX5_readsStatement_131 : decode cX5_readsStatement 131 = .ok (.invokevirtual 97, 3) := by decide +kernel
theorem dX5_readsStatement_134 : decode cX5_readsStatement 134 = .ok (.ifCond .eq 16, 3) := by decide +kernel
theorem dX5_readsStatement_137 : decode cX5_readsStatement 137 = .ok (.aload_n 0, 1) := by decide +kernel
theorem dX5_readsStatement_138 : decode cX5_readsStatement 138 = .ok (.iconst 4, 1) := by decide +kernel
theorem dX5_readsStatement_139 : decode cX5_readsStatement 139 = .ok (.iconst 1, 1) := by decide +kernel
theorem dX5_readsStatement_140 : decode cX5_readsStatement 140 = .ok (.invokevirtual 97, 3) := by decide +kernel
theorem dX5_readsStatement_143 : decode cX5_readsStatement 143 = .ok (.ifCond .eq 7, 3) := by decide +kernel
theorem dX5_readsStatement_146 : decode cX5_readsStatement 146 = .ok (.iconst 1, 1) := by decide +kernel
theorem dX5_readsStatement_147 : decode cX5_readsStatement 147 = .ok (.goto 4, 3) := by decide +kernel
theorem dX5_readsStatement_150 : decode cX5_readsStatement 150 = .ok (.iconst 0, 1) := by decide +kernel
theorem dX5_readsStatement_151 : decode cX5_readsStatement 151 = .ok (.istore_n 2, 1) := by decide +kernel
theorem dX5_readsStatement_152 : decode cX5_readsStatement 152 = .ok (.goto 35, 3) := by decide +kernel
theorem dX5_readsStatement_155 : decode cX5_readsStatement 155 = .ok (.aload_n 0, 1) := by decide +kernel
theorem dX5_readsStatement_156 : decode cX5_readsStatement 156 = .ok (.iconst 0, 1) := by decide +kernel
theorem dX5_readsStatement_157 : decode cX5_readsStatement 157 = .ok (.iconst 1, 1) := by decide +kernel
theorem dX5_readsStatement_158 : decode cX5_readsStatement 158 = .ok (.invokevirtual 97, 3) := by decide +kernel
theorem dX5_readsStatement_161 : decode cX5_readsStatement 161 = .ok (.istore_n 2, 1) := by decide +kernel
theorem dX5_readsStatement_162 : decode cX5_readsStatement 162 = .ok (.goto 25, 3) := by decide +kernel
theorem dX5_readsStatement_165 : decode cX5_readsStatement 165 = .ok (.aload_n 0, 1) := by decide +kernel
theorem dX5_readsStatement_166 : decode cX5_readsStatement 166 = .ok (.iconst 0, 1) := by decide +kernel
theorem dX5_readsStatement_167 : decode cX5_readsStatement 167 = .ok (.iconst 2, 1) := by decide +kernel
theorem dX5_readsStatement_168 : decode cX5_readsStatement 168 = .ok (.invokevirtual 97, 3) := by decide +kernel
theorem dX5_readsStatement_171 : decode cX5_readsStatement 171 = .ok (.istore_n 2, 1) := by decide +kernel
theorem dX5_readsStatement_172 : decode cX5_readsStatement 172 = .ok (.goto 15, 3) := by decide +kernel
theorem dX5_readsStatement_175 : decode cX5_readsStatement 175 = .ok (.aload_n 0, 1) := by decide +kernel
theorem dX5_readsStatement_176 : decode cX5_readsStatement 176 = .ok (.dup, 1) := by decide +kernel
theorem dX5_readsStatement_177 : decode cX5_readsStatement 177 = .ok (.getfield 87, 3) := by decide +kernel
theorem dX5_readsStatement_180 : decode cX5_readsStatement 180 = .ok (.iconst 1, 1) := by decide +kernel
theorem dX5_readsStatement_181 : decode cX5_readsStatement 181 = .ok (.isub, 1) := by decide +kernel
theorem dX5_readsStatement_182 : decode cX5_readsStatement 182 = .ok (.putfield 87, 3) := by decide +kernel
theorem dX5_readsStatement_185 : decode cX5_readsStatement 185 = .ok (.iconst 0, 1) := by decide +kernel
theorem dX5_readsStatement_186 : decode cX5_readsStatement 186 = .ok (.ireturn, 1) := by decide +kernel
theorem dX5_readsStatement_187 : decode cX5_readsStatement 187 = .ok (.iload_n 2, 1) := by decide +kernel
theorem dX5_readsStatement_188 : decode cX5_readsStatement 188 = .ok (.ifCond .eq 12, 3) := by decide +kernel
theorem dX5_readsStatement_191 : decode cX5_readsStatement 191 = .ok (.aload_n 0, 1) := by decide +kernel
theorem dX5_readsStatement_192 : decode cX5_readsStatement 192 = .ok (.invokevirtual 90, 3) := by decide +kernel
theorem dX5_readsStatement_195 : decode cX5_readsStatement 195 = .ok (.bipush 59, 2) := by decide +kernel
theorem dX5_readsStatement_197 : decode cX5_readsStatement 197 = .ok (.if_icmp .eq 5, 3) := by decide +kernel
theorem dX5_readsStatement_200 : decode cX5_readsStatement 200 = .ok (.iconst 0, 1) := by decide +kernel
theorem dX5_readsStatement_201 : decode cX5_readsStatement 201 = .ok (.ireturn, 1) := by decide +kernel
theorem dX5_readsStatement_202 : decode cX5_readsStatement 202 = .ok (.aload_n 0, 1) := by decide +kernel
theorem dX5_readsStatement_203 : decode cX5_readsStatement 203 = .ok (.dup, 1) := by decide +kernel
theorem dX5_readsStatement_204 : decode cX5_readsStatement 204 = .ok (.getfield 87, 3) := by decide +kernel
theorem dX5_readsStatement_207 : decode cX5_readsStatement 207 = .ok (.iconst 1, 1) := by decide +kernel
theorem dX5_readsStatement_208 : decode cX5_readsStatement 208 = .ok (.iadd, 1) := by decide +kernel
theorem dX5_readsStatement_209 : decode cX5_readsStatement 209 = .ok (.putfield 87, 3) := by decide +kernel
theorem dX5_readsStatement_212 : decode cX5_readsStatement 212 = .ok (.iconst 1, 1) := by decide +kernel
theorem dX5_readsStatement_213 : decode cX5_readsStatement 213 = .ok (.ireturn, 1) := by decide +kernel
theorem dX5_addsRider_0 : decode cX5_addsRider 0 = .ok (.aload_n 0, 1) := by decide +kernel
theorem dX5_addsRider_1 : decode cX5_addsRider 1 = .ok (.getfield 34, 3) := by decide +kernel
theorem dX5_addsRider_4 : decode cX5_addsRider 4 = .ok (.iconst 2, 1) := by decide +kernel
theorem dX5_addsRider_5 : decode cX5_addsRider 5 = .ok (.iaload, 1) := by decide +kernel
theorem dX5_addsRider_6 : decode cX5_addsRider 6 = .ok (.invokestatic 104, 3) := by decide +kernel
theorem dX5_addsRider_9 : decode cX5_addsRider 9 = .ok (.ifCond .eq 38, 3) := by decide +kernel
theorem dX5_addsRider_12 : decode cX5_addsRider 12 = .ok (.aload_n 0, 1) := by decide +kernel
theorem dX5_addsRider_13 : decode cX5_addsRider 13 = .ok (.getfield 34, 3) := by decide +kernel
theorem dX5_addsRider_16 : decode cX5_addsRider 16 = .ok (.iconst 3, 1) := by decide +kernel
theorem dX5_addsRider_17 : decode cX5_addsRider 17 = .ok (.iaload, 1) := by decide +kernel
theorem dX5_addsRider_18 : decode cX5_addsRider 18 = .ok (.invokestatic 104, 3) := by decide +kernel
theorem dX5_addsRider_21 : decode cX5_addsRider 21 = .ok (.ifCond .eq 26, 3) := by decide +kernel
theorem dX5_addsRider_24 : decode cX5_addsRider 24 = .ok (.aload_n 0, 1) := by decide +kernel
theorem dX5_addsRider_25 : decode cX5_addsRider 25 = .ok (.getfield 34, 3) := by decide +kernel
theorem dX5_addsRider_28 : decode cX5_addsRider 28 = .ok (.iconst 4, 1) := by decide +kernel
theorem dX5_addsRider_29 : decode cX5_addsRider 29 = .ok (.iaload, 1) := by decide +kernel
theorem dX5_addsRider_30 : decode cX5_addsRider 30 = .ok (.invokestatic 104, 3) := by decide +kernel
theorem dX5_addsRider_33 : decode cX5_addsRider 33 = .ok (.ifCond .eq 14, 3) := by decide +kernel
theorem dX5_addsRider_36 : decode cX5_addsRider 36 = .ok (.aload_n 0, 1) := by decide +kernel
theorem dX5_addsRider_37 : decode cX5_addsRider 37 = .ok (.getfield 9, 3) := by decide +kernel
theorem dX5_addsRider_40 : decode cX5_addsRider 40 = .ok (.iconst 0, 1) := by decide +kernel
theorem dX5_addsRider_41 : decode cX5_addsRider 41 = .ok (.iaload, 1) := by decide +kernel
theorem dX5_addsRider_42 : decode cX5_addsRider 42 = .ok (.bipush 6, 2) := by decide +kernel
theorem dX5_addsRider_44 : decode cX5_addsRider 44 = .ok (.if_icmp .ne 5, 3) := by decide +kernel
theorem dX5_addsRider_47 : decode cX5_addsRider 47 = .ok (.iconst 0, 1) := by decide +kernel
theorem dX5_addsRider_48 : decode cX5_addsRider 48 = .ok (.ireturn, 1) := by decide +kernel
theorem dX5_addsRider_49 : decode cX5_addsRider 49 = .ok (.aload_n 0, 1) := by decide +kernel
theorem dX5_addsRider_50 : decode cX5_addsRider 50 = .ok (.getfield 9, 3) := by decide +kernel
theorem dX5_addsRider_53 : decode cX5_addsRider 53 = .ok (.iconst 0, 1) := by decide +kernel
theorem dX5_addsRider_54 : decode cX5_addsRider 54 = .ok (.iaload, 1) := by decide +kernel
theorem dX5_addsRider_55 : decode cX5_addsRider 55 = .ok (.istore_n 1, 1) := by decide +kernel
theorem dX5_addsRider_56 : decode cX5_addsRider 56 = .ok (.iconst 0, 1) := by decide +kernel
theorem dX5_addsRider_57 : decode cX5_addsRider 57 = .ok (.istore_n 2, 1) := by decide +kernel
theorem dX5_addsRider_58 : decode cX5_addsRider 58 = .ok (.iload_n 2, 1) := by decide +kernel
theorem dX5_addsRider_59 : decode cX5_addsRider 59 = .ok (.iconst 5, 1) := by decide +kernel
theorem dX5_addsRider_60 : decode cX5_addsRider 60 = .ok (.if_icmp .ge 25, 3) := by decide +kernel
theorem dX5_addsRider_63 : decode cX5_addsRider 63 = .ok (.aload_n 0, 1) := by decide +kernel
theorem dX5_addsRider_64 : decode cX5_addsRider 64 = .ok (.getfield 9, 3) := by decide +kernel
theorem dX5_addsRider_67 : decode cX5_addsRider 67 = .ok (.iload_n 1, 1) := by decide +kernel
theorem dX5_addsRider_68 : decode cX5_addsRider 68 = .ok (.iload_n 2, 1) := by decide +kernel
theorem dX5_addsRider_69 : decode cX5_addsRider 69 = .ok (.invokestatic 58, 3) := by decide +kernel
theorem dX5_addsRider_72 : decode cX5_addsRider 72 = .ok (.aload_n 0, 1) := by decide +kernel
theorem dX5_addsRider_73 : decode cX5_addsRider 73 = .ok (.getfield 34, 3) := by decide +kernel
theorem dX5_addsRider_76 : decode cX5_addsRider 76 = .ok (.iload_n 2, 1) := by decide +kernel
theorem dX5_addsRider_77 : decode cX5_addsRider 77 = .ok (.iaload, 1) := by decide +kernel
theorem dX5_addsRider_78 : decode cX5_addsRider 78 = .ok (.iastore, 1) := by decide +kernel
theorem dX5_addsRider_79 : decode cX5_addsRider 79 = .ok (.iinc 2 1, 3) := by decide +kernel
theorem dX5_addsRider_82 : decode cX5_addsRider 82 = .ok (.goto (-24), 3) := by decide +kernel
theorem dX5_addsRider_85 : decode cX5_addsRider 85 = .ok (.aload_n 0, 1) := by decide +kernel
theorem dX5_addsRider_86 : decode cX5_addsRider 86 = .ok (.getfield 9, 3) := by decide +kernel
theorem dX5_addsRider_89 : decode cX5_addsRider 89 = .ok (.iload_n 1, 1) := by decide +kernel
theorem dX5_addsRider_90 : decode cX5_addsRider 90 = .ok (.invokestatic 108, 3) := by decide +kernel
theorem dX5_addsRider_93 : decode cX5_addsRider 93 = .ok (.aload_n 0, 1) := by decide +kernel
theorem dX5_addsRider_94 : decode cX5_addsRider 94 = .ok (.getfield 9, 3) := by decide +kernel
theorem dX5_addsRider_97 : decode cX5_addsRider 97 = .ok (.iconst 0, 1) := by decide +kernel
theorem dX5_addsRider_98 : decode cX5_addsRider 98 = .ok (.dup2, 1) := by decide +kernel
theorem dX5_addsRider_99 : decode cX5_addsRider 99 = .ok (.iaload, 1) := by decide +kernel
theorem dX5_addsRider_100 : decode cX5_addsRider 100 = .ok (.iconst 1, 1) := by decide +kernel
theorem dX5_addsRider_101 : decode cX5_addsRider 101 = .ok (.iadd, 1) := by decide +kernel
theorem dX5_addsRider_102 : decode cX5_addsRider 102 = .ok (.iastore, 1) := by decide +kernel
theorem dX5_addsRider_103 : decode cX5_addsRider 103 = .ok (.iconst 1, 1) := by decide +kernel
theorem dX5_addsRider_104 : decode cX5_addsRider 104 = .ok (.ireturn, 1) := by decide +kernel
theorem dX5_isDone_0 : decode cX5_isDone 0 = .ok (.aload_n 0, 1) := by decide +kernel
theorem dX5_isDone_1 : decode cX5_isDone 1 = .ok (.getfield 34, 3) := by decide +kernel
theorem dX5_isDone_4 : decode cX5_isDone 4 = .ok (.iconst 0, 1) := by decide +kernel
theorem dX5_isDone_5 : decode cX5_isDone 5 = .ok (.iaload, 1) := by decide +kernel
theorem dX5_isDone_6 : decode cX5_isDone 6 = .ok (.istore_n 2, 1) := by decide +kernel
theorem dX5_isDone_7 : decode cX5_isDone 7 = .ok (.aload_n 0, 1) := by decide +kernel
theorem dX5_isDone_8 : decode cX5_isDone 8 = .ok (.getfield 34, 3) := by decide +kernel
theorem dX5_isDone_11 : decode cX5_isDone 11 = .ok (.iconst 1, 1) := by decide +kernel
theorem dX5_isDone_12 : decode cX5_isDone 12 = .ok (.iaload, 1) := by decide +kernel
theorem dX5_isDone_13 : decode cX5_isDone 13 = .ok (.istore_n 3, 1) := by decide +kernel
theorem dX5_isDone_14 : decode cX5_isDone 14 = .ok (.iload_n 1, 1) := by decide +kernel
theorem dX5_isDone_15 : decode cX5_isDone 15 = .ok (.lookupswitch 146 #[(97, 106), (104, 81), (114, 49), (115, 86), (119, 106)], 49) := by decide +kernel
theorem dX5_isDone_64 : decode cX5_isDone 64 = .ok (.iload_n 2, 1) := by decide +kernel
theorem dX5_isDone_65 : decode cX5_isDone 65 = .ok (.invokestatic 104, 3) := by decide +kernel
theorem dX5_isDone_68 : decode cX5_isDone 68 = .ok (.ifCond .eq 15, 3) := by decide +kernel
theorem dX5_isDone_71 : decode cX5_isDone 71 = .ok (.iload_n 3, 1) := by decide +kernel
theorem dX5_isDone_72 : decode cX5_isDone 72 = .ok (.invokestatic 104, 3) := by decide +kernel
theorem dX5_isDone_75 : decode cX5_isDone 75 = .ok (.ifCond .eq 8, 3) := by decide +kernel
theorem dX5_isDone_78 : decode cX5_isDone 78 = .ok (.iload_n 2, 1) := by decide +kernel
theorem dX5_isDone_79 : decode cX5_isDone 79 = .ok (.iload_n 3, 1) := by decide +kernel
theorem dX5_isDone_80 : decode cX5_isDone 80 = .ok (.if_icmp .ne 5, 3) := by decide +kernel
theorem dX5_isDone_83 : decode cX5_isDone 83 = .ok (.iconst 0, 1) := by decide +kernel
theorem dX5_isDone_84 : decode cX5_isDone 84 = .ok (.ireturn, 1) := by decide +kernel
theorem dX5_isDone_85 : decode cX5_isDone 85 = .ok (.aload_n 0, 1) := by decide +kernel
theorem dX5_isDone_86 : decode cX5_isDone 86 = .ok (.getfield 9, 3) := by decide +kernel
theorem dX5_isDone_89 : decode cX5_isDone 89 = .ok (.iload_n 2, 1) := by decide +kernel
theorem dX5_isDone_90 : decode cX5_isDone 90 = .ok (.iload_n 3, 1) := by decide +kernel
theorem dX5_isDone_91 : decode cX5_isDone 91 = .ok (.invokestatic 111, 3) := by decide +kernel
theorem dX5_isDone_94 : decode cX5_isDone 94 = .ok (.iconst 1, 1) := by decide +kernel
theorem dX5_isDone_95 : decode cX5_isDone 95 = .ok (.ireturn, 1) := by decide +kernel
theorem dX5_isDone_96 : decode cX5_isDone 96 = .ok (.aload_n 0, 1) := by decide +kernel
theorem dX5_isDone_97 : decode cX5_isDone 97 = .ok (.invokevirtual 115, 3) := by decide +kernel
theorem dX5_isDone_100 : decode cX5_isDone 100 = .ok (.ireturn, 1) := by decide +kernel
theorem dX5_isDone_101 : decode cX5_isDone 101 = .ok (.aload_n 0, 1) := by decide +kernel
theorem dX5_isDone_102 : decode cX5_isDone 102 = .ok (.iload_n 2, 1) := by decide +kernel
theorem dX5_isDone_103 : decode cX5_isDone 103 = .ok (.invokevirtual 118, 3) := by decide +kernel
theorem dX5_isDone_106 : decode cX5_isDone 106 = .ok (.ifCond .ne 5, 3) := by decide +kernel
theorem dX5_isDone_109 : decode cX5_isDone 109 = .ok (.iconst 0, 1) := by decide +kernel
theorem dX5_isDone_110 : decode cX5_isDone 110 = .ok (.ireturn, 1) := by decide +kernel
theorem dX5_isDone_111 : decode cX5_isDone 111 = .ok (.aload_n 0, 1) := by decide +kernel
theorem dX5_isDone_112 : decode cX5_isDone 112 = .ok (.getfield 9, 3) := by decide +kernel
theorem dX5_isDone_115 : decode cX5_isDone 115 = .ok (.iload_n 2, 1) := by decide +kernel
theorem dX5_isDone_116 : decode cX5_isDone 116 = .ok (.invokestatic 108, 3) := by decide +kernel
theorem dX5_isDone_119 : decode cX5_isDone 119 = .ok (.iconst 1, 1) := by decide +kernel
theorem dX5_isDone_120 : decode cX5_isDone 120 = .ok (.ireturn, 1) := by decide +kernel
theorem dX5_isDone_121 : decode cX5_isDone 121 = .ok (.aload_n 0, 1) := by decide +kernel
theorem dX5_isDone_122 : decode cX5_isDone 122 = .ok (.iload_n 2, 1) := by decide +kernel
theorem dX5_isDone_123 : decode cX5_isDone 123 = .ok (.invokevirtual 118, 3) := by decide +kernel
theorem dX5_isDone_126 : decode cX5_isDone 126 = .ok (.ifCond .eq 10, 3) := by decide +kernel
theorem dX5_isDone_129 : decode cX5_isDone 129 = .ok (.iload_n 3, 1) := by decide +kernel
theorem dX5_isDone_130 : decode cX5_isDone 130 = .ok (.invokestatic 104, 3) := by decide +kernel
theorem dX5_isDone_133 : decode cX5_isDone 133 = .ok (.ifCond .ne 5, 3) := by decide +kernel
theorem dX5_isDone_136 : decode cX5_isDone 136 = .ok (.iconst 0, 1) := by decide +kernel
theorem dX5_isDone_137 : decode cX5_isDone 137 = .ok (.ireturn, 1) := by decide +kernel
theorem dX5_isDone_138 : decode cX5_isDone 138 = .ok (.aload_n 0, 1) := by decide +kernel
theorem dX5_isDone_139 : decode cX5_isDone 139 = .ok (.getfield 9, 3) := by decide +kernel
theorem dX5_isDone_142 : decode cX5_isDone 142 = .ok (.iload_n 2, 1) := by decide +kernel
theorem dX5_isDone_143 : decode cX5_isDone 143 = .ok (.iload_n 1, 1) := by decide +kernel
theorem dX5_isDone_144 : decode cX5_isDone 144 = .ok (.bipush 119, 2) := by decide +kernel
theorem dX5_isDone_146 : decode cX5_isDone 146 = .ok (.if_icmp .ne 7, 3) := by decide +kernel
theorem dX5_isDone_149 : decode cX5_isDone 149 = .ok (.iconst 2, 1) := by decide +kernel
theorem dX5_isDone_150 : decode cX5_isDone 150 = .ok (.goto 4, 3) := by decide +kernel
theorem dX5_isDone_153 : decode cX5_isDone 153 = .ok (.iconst 4, 1) := by decide +kernel
theorem dX5_isDone_154 : decode cX5_isDone 154 = .ok (.invokestatic 58, 3) := by decide +kernel
theorem dX5_isDone_157 : decode cX5_isDone 157 = .ok (.iload_n 3, 1) := by decide +kernel
theorem dX5_isDone_158 : decode cX5_isDone 158 = .ok (.iastore, 1) := by decide +kernel
theorem dX5_isDone_159 : decode cX5_isDone 159 = .ok (.iconst 1, 1) := by decide +kernel
theorem dX5_isDone_160 : decode cX5_isDone 160 = .ok (.ireturn, 1) := by decide +kernel
theorem dX5_isDone_161 : decode cX5_isDone 161 = .ok (.iload_n 2, 1) := by decide +kernel
theorem dX5_isDone_162 : decode cX5_isDone 162 = .ok (.iconst 1, 1) := by decide +kernel
theorem dX5_isDone_163 : decode cX5_isDone 163 = .ok (.bipush 60, 2) := by decide +kernel
theorem dX5_isDone_165 : decode cX5_isDone 165 = .ok (.invokestatic 46, 3) := by decide +kernel
theorem dX5_isDone_168 : decode cX5_isDone 168 = .ok (.ifCond .eq 17, 3) := by decide +kernel
theorem dX5_isDone_171 : decode cX5_isDone 171 = .ok (.aload_n 0, 1) := by decide +kernel
theorem dX5_isDone_172 : decode cX5_isDone 172 = .ok (.getfield 9, 3) := by decide +kernel
theorem dX5_isDone_175 : decode cX5_isDone 175 = .ok (.iconst 1, 1) := by decide +kernel
theorem dX5_isDone_176 : decode cX5_isDone 176 = .ok (.iaload, 1) := by decide +kernel
theorem dX5_isDone_177 : decode cX5_isDone 177 = .ok (.iload_n 2, 1) := by decide +kernel
theorem dX5_isDone_178 : decode cX5_isDone 178 = .ok (.iadd, 1) := by decide +kernel
theorem dX5_isDone_179 : decode cX5_isDone 179 = .ok (.sipush 999, 3) := by decide +kernel
theorem dX5_isDone_182 : decode cX5_isDone 182 = .ok (.if_icmp .le 5, 3) := by decide +kernel
theorem dX5_isDone_185 : decode cX5_isDone 185 = .ok (.iconst 0, 1) := by decide +kernel
theorem dX5_isDone_186 : decode cX5_isDone 186 = .ok (.ireturn, 1) := by decide +kernel
theorem dX5_isDone_187 : decode cX5_isDone 187 = .ok (.aload_n 0, 1) := by decide +kernel
theorem dX5_isDone_188 : decode cX5_isDone 188 = .ok (.aload_n 0, 1) := by decide +kernel
theorem dX5_isDone_189 : decode cX5_isDone 189 = .ok (.getfield 9, 3) := by decide +kernel
theorem dX5_isDone_192 : decode cX5_isDone 192 = .ok (.iload_n 2, 1) := by decide +kernel
theorem dX5_isDone_193 : decode cX5_isDone 193 = .ok (.invokevirtual 121, 3) := by decide +kernel
theorem dX5_isDone_196 : decode cX5_isDone 196 = .ok (.iconst 1, 1) := by decide +kernel
theorem dX5_isDone_197 : decode cX5_isDone 197 = .ok (.ireturn, 1) := by decide +kernel
theorem dX5_county_0 : decode cX5_county 0 = .ok (.aload_n 0, 1) := by decide +kernel
theorem dX5_county_1 : decode cX5_county 1 = .ok (.iconst 0, 1) := by decide +kernel
theorem dX5_county_2 : decode cX5_county 2 = .ok (.putfield 87, 3) := by decide +kernel
theorem dX5_county_5 : decode cX5_county 5 = .ok (.iconst 0, 1) := by decide +kernel
theorem dX5_county_6 : decode cX5_county 6 = .ok (.istore_n 1, 1) := by decide +kernel
theorem dX5_county_7 : decode cX5_county 7 = .ok (.bipush (-9), 2) := by decide +kernel
theorem dX5_county_9 : decode cX5_county 9 = .ok (.istore_n 2, 1) := by decide +kernel
theorem dX5_county_10 : decode cX5_county 10 = .ok (.aload_n 0, 1) := by decide +kernel
theorem dX5_county_11 : decode cX5_county 11 = .ok (.invokevirtual 124, 3) := by decide +kernel
theorem dX5_county_14 : decode cX5_county 14 = .ok (.ifCond .ne 12, 3) := by decide +kernel
theorem dX5_county_17 : decode cX5_county 17 = .ok (.sipush (-1000), 3) := by decide +kernel
theorem dX5_county_20 : decode cX5_county 20 = .ok (.aload_n 0, 1) := by decide +kernel
theorem dX5_county_21 : decode cX5_county 21 = .ok (.getfield 87, 3) := by decide +kernel
theorem dX5_county_24 : decode cX5_county 24 = .ok (.isub, 1) := by decide +kernel
theorem dX5_county_25 : decode cX5_county 25 = .ok (.istore_n 2, 1) := by decide +kernel
theorem dX5_county_26 : decode cX5_county 26 = .ok (.iinc 1 1, 3) := by decide +kernel
theorem dX5_county_29 : decode cX5_county 29 = .ok (.iload_n 2, 1) := by decide +kernel
theorem dX5_county_30 : decode cX5_county 30 = .ok (.bipush (-9), 2) := by decide +kernel
theorem dX5_county_32 : decode cX5_county 32 = .ok (.if_icmp .ne 14, 3) := by decide +kernel
theorem dX5_county_35 : decode cX5_county 35 = .ok (.aload_n 0, 1) := by decide +kernel
theorem dX5_county_36 : decode cX5_county 36 = .ok (.getfield 87, 3) := by decide +kernel
theorem dX5_county_39 : decode cX5_county 39 = .ok (.aload_n 0, 1) := by decide +kernel
theorem dX5_county_40 : decode cX5_county 40 = .ok (.getfield 83, 3) := by decide +kernel
theorem dX5_county_43 : decode cX5_county 43 = .ok (.if_icmp .lt (-33), 3) := by decide +kernel
theorem dX5_county_46 : decode cX5_county 46 = .ok (.aload_n 0, 1) := by decide +kernel
theorem dX5_county_47 : decode cX5_county 47 = .ok (.getfield 9, 3) := by decide +kernel
theorem dX5_county_50 : decode cX5_county 50 = .ok (.aload_n 0, 1) := by decide +kernel
theorem dX5_county_51 : decode cX5_county 51 = .ok (.getfield 19, 3) := by decide +kernel
theorem dX5_county_54 : decode cX5_county 54 = .ok (.invokestatic 127, 3) := by decide +kernel
theorem dX5_county_57 : decode cX5_county 57 = .ok (.aload_n 0, 1) := by decide +kernel
theorem dX5_county_58 : decode cX5_county 58 = .ok (.iconst 0, 1) := by decide +kernel
theorem dX5_county_59 : decode cX5_county 59 = .ok (.putfield 87, 3) := by decide +kernel
theorem dX5_county_62 : decode cX5_county 62 = .ok (.iload_n 2, 1) := by decide +kernel
theorem dX5_county_63 : decode cX5_county 63 = .ok (.bipush (-9), 2) := by decide +kernel
theorem dX5_county_65 : decode cX5_county 65 = .ok (.if_icmp .ne 63, 3) := by decide +kernel
theorem dX5_county_68 : decode cX5_county 68 = .ok (.aload_n 0, 1) := by decide +kernel
theorem dX5_county_69 : decode cX5_county 69 = .ok (.getfield 87, 3) := by decide +kernel
theorem dX5_county_72 : decode cX5_county 72 = .ok (.aload_n 0, 1) := by decide +kernel
theorem dX5_county_73 : decode cX5_county 73 = .ok (.getfield 83, 3) := by decide +kernel
theorem dX5_county_76 : decode cX5_county 76 = .ok (.if_icmp .ge 52, 3) := by decide +kernel
theorem dX5_county_79 : decode cX5_county 79 = .ok (.aload_n 0, 1) := by decide +kernel
theorem dX5_county_80 : decode cX5_county 80 = .ok (.getfield 87, 3) := by decide +kernel
theorem dX5_county_83 : decode cX5_county 83 = .ok (.istore_n 3, 1) := by decide +kernel
theorem dX5_county_84 : decode cX5_county 84 = .ok (.aload_n 0, 1) := by decide +kernel
theorem dX5_county_85 : decode cX5_county 85 = .ok (.invokevirtual 90, 3) := by decide +kernel
theorem dX5_county_88 : decode cX5_county 88 = .ok (.istore 4, 2) := by decide +kernel
theorem dX5_county_90 : decode cX5_county 90 = .ok (.aload_n 0, 1) := by decide +kernel
theorem dX5_county_91 : decode cX5_county 91 = .ok (.invokevirtual 124, 3) := by decide +kernel
theorem dX5_county_94 : decode cX5_county 94 = .ok (.istore 5, 2) := by decide +kernel
theorem dX5_county_96 : decode cX5_county 96 = .ok (.aload_n 0, 1) := by decide +kernel
theorem dX5_county_97 : decode cX5_county 97 = .ok (.iload 4, 2) := by decide +kernel
theorem dX5_county_99 : decode cX5_county 99 = .ok (.invokevirtual 131, 3) := by decide +kernel
theorem dX5_county_102 : decode cX5_county 102 = .ok (.ifCond .eq 6, 3) := by decide +kernel
theorem dX5_county_105 : decode cX5_county 105 = .ok (.goto (-43), 3) := by decide +kernel
theorem dX5_county_108 : decode cX5_county 108 = .ok (.sipush (-2000), 3) := by decide +kernel
theorem dX5_county_111 : decode cX5_county 111 = .ok (.iload_n 3, 1) := by decide +kernel
theorem dX5_county_112 : decode cX5_county 112 = .ok (.isub, 1) := by decide +kernel
theorem dX5_county_113 : decode cX5_county 113 = .ok (.istore_n 2, 1) := by decide +kernel
theorem dX5_county_114 : decode cX5_county 114 = .ok (.aload_n 0, 1) := by decide +kernel
theorem dX5_county_115 : decode cX5_county 115 = .ok (.getfield 19, 3) := by decide +kernel
theorem dX5_county_118 : decode cX5_county 118 = .ok (.aload_n 0, 1) := by decide +kernel
theorem dX5_county_119 : decode cX5_county 119 = .ok (.getfield 9, 3) := by decide +kernel
theorem dX5_county_122 : decode cX5_county 122 = .ok (.invokestatic 127, 3) := by decide +kernel
theorem dX5_county_125 : decode cX5_county 125 = .ok (.goto (-63), 3) := by decide +kernel
theorem dX5_county_128 : decode cX5_county 128 = .ok (.aload_n 0, 1) := by decide +kernel
theorem dX5_county_129 : decode cX5_county 129 = .ok (.iconst 0, 1) := by decide +kernel
theorem dX5_county_130 : decode cX5_county 130 = .ok (.putfield 83, 3) := by decide +kernel
theorem dX5_county_133 : decode cX5_county 133 = .ok (.iload_n 2, 1) := by decide +kernel
theorem dX5_county_134 : decode cX5_county 134 = .ok (.bipush (-9), 2) := by decide +kernel
theorem dX5_county_136 : decode cX5_county 136 = .ok (.if_icmp .ne 7, 3) := by decide +kernel
theorem dX5_county_139 : decode cX5_county 139 = .ok (.iload_n 1, 1) := by decide +kernel
theorem dX5_county_140 : decode cX5_county 140 = .ok (.goto 4, 3) := by decide +kernel
theorem dX5_county_143 : decode cX5_county 143 = .ok (.iload_n 2, 1) := by decide +kernel
theorem dX5_county_144 : decode cX5_county 144 = .ok (.ireturn, 1) := by decide +kernel
theorem dX5_rider_0 : decode cX5_rider 0 = .ok (.aload_n 0, 1) := by decide +kernel
theorem dX5_rider_1 : decode cX5_rider 1 = .ok (.iload_n 1, 1) := by decide +kernel
theorem dX5_rider_2 : decode cX5_rider 2 = .ok (.invokevirtual 118, 3) := by decide +kernel
theorem dX5_rider_5 : decode cX5_rider 5 = .ok (.ifCond .ne 9, 3) := by decide +kernel
theorem dX5_rider_8 : decode cX5_rider 8 = .ok (.aload_n 0, 1) := by decide +kernel
theorem dX5_rider_9 : decode cX5_rider 9 = .ok (.iconst (-1), 1) := by decide +kernel
theorem dX5_rider_10 : decode cX5_rider 10 = .ok (.invokevirtual 42, 3) := by decide +kernel
theorem dX5_rider_13 : decode cX5_rider 13 = .ok (.ireturn, 1) := by decide +kernel
theorem dX5_rider_14 : decode cX5_rider 14 = .ok (.iload_n 2, 1) := by decide +kernel
theorem dX5_rider_15 : decode cX5_rider 15 = .ok (.iconst 0, 1) := by decide +kernel
theorem dX5_rider_16 : decode cX5_rider 16 = .ok (.bipush 6, 2) := by decide +kernel
theorem dX5_rider_18 : decode cX5_rider 18 = .ok (.invokestatic 46, 3) := by decide +kernel
theorem dX5_rider_21 : decode cX5_rider 21 = .ok (.ifCond .eq 14, 3) := by decide +kernel
theorem dX5_rider_24 : decode cX5_rider 24 = .ok (.aload_n 0, 1) := by decide +kernel
theorem dX5_rider_25 : decode cX5_rider 25 = .ok (.getfield 9, 3) := by decide +kernel
theorem dX5_rider_28 : decode cX5_rider 28 = .ok (.iload_n 1, 1) := by decide +kernel
theorem dX5_rider_29 : decode cX5_rider 29 = .ok (.iload_n 2, 1) := by decide +kernel
theorem dX5_rider_30 : decode cX5_rider 30 = .ok (.invokestatic 58, 3) := by decide +kernel
theorem dX5_rider_33 : decode cX5_rider 33 = .ok (.iaload, 1) := by decide +kernel
theorem dX5_rider_34 : decode cX5_rider 34 = .ok (.ireturn, 1) := by decide +kernel
theorem dX5_rider_35 : decode cX5_rider 35 = .ok (.iload_n 2, 1) := by decide +kernel
theorem dX5_rider_36 : decode cX5_rider 36 = .ok (.bipush 7, 2) := by decide +kernel
theorem dX5_rider_38 : decode cX5_rider 38 = .ok (.if_icmp .ne 29, 3) := by decide +kernel
theorem dX5_rider_41 : decode cX5_rider 41 = .ok (.aload_n 0, 1) := by decide +kernel
theorem dX5_rider_42 : decode cX5_rider 42 = .ok (.getfield 9, 3) := by decide +kernel
theorem dX5_rider_45 : decode cX5_rider 45 = .ok (.iload_n 1, 1) := by decide +kernel
theorem dX5_rider_46 : decode cX5_rider 46 = .ok (.iconst 0, 1) := by decide +kernel
theorem dX5_rider_47 : decode cX5_rider 47 = .ok (.invokestatic 58, 3) := by decide +kernel
theorem dX5_rider_50 : decode cX5_rider 50 = .ok (.iaload, 1) := by decide +kernel
theorem dX5_rider_51 : decode cX5_rider 51 = .ok (.aload_n 0, 1) := by decide +kernel
theorem dX5_rider_52 : decode cX5_rider 52 = .ok (.getfield 9, 3) := by decide +kernel
theorem dX5_rider_55 : decode cX5_rider 55 = .ok (.iload_n 1, 1) := by decide +kernel
theorem dX5_rider_56 : decode cX5_rider 56 = .ok (.iconst 1, 1) := by decide +kernel
theorem dX5_rider_57 : decode cX5_rider 57 = .ok (.invokestatic 58, 3) := by decide +kernel
theorem dX5_rider_60 : decode cX5_rider 60 = .ok (.iaload, 1) := by decide +kernel
theorem dX5_rider_61 : decode cX5_rider 61 = .ok (.invokestatic 65, 3) := by decide +kernel
theorem dX5_rider_64 : decode cX5_rider 64 = .ok (.goto 9, 3) := by decide +kernel
theorem dX5_rider_67 : decode cX5_rider 67 = .ok (.aload_n 0, 1) := by decide +kernel
theorem dX5_rider_68 : decode cX5_rider 68 = .ok (.bipush (-2), 2) := by decide +kernel
theorem dX5_rider_70 : decode cX5_rider 70 = .ok (.invokevirtual 42, 3) := by decide +kernel
theorem dX5_rider_73 : decode cX5_rider 73 = .ok (.ireturn, 1) := by decide +kernel
theorem dX5_steps_0 : decode cX5_steps 0 = .ok (.iload_n 1, 1) := by decide +kernel
theorem dX5_steps_1 : decode cX5_steps 1 = .ok (.invokestatic 104, 3) := by decide +kernel
theorem dX5_steps_4 : decode cX5_steps 4 = .ok (.ifCond .eq 10, 3) := by decide +kernel
theorem dX5_steps_7 : decode cX5_steps 7 = .ok (.iload_n 2, 1) := by decide +kernel
theorem dX5_steps_8 : decode cX5_steps 8 = .ok (.invokestatic 104, 3) := by decide +kernel
theorem dX5_steps_11 : decode cX5_steps 11 = .ok (.ifCond .ne 9, 3) := by decide +kernel
theorem dX5_steps_14 : decode cX5_steps 14 = .ok (.aload_n 0, 1) := by decide +kernel
theorem dX5_steps_15 : decode cX5_steps 15 = .ok (.iconst (-1), 1) := by decide +kernel
theorem dX5_steps_16 : decode cX5_steps 16 = .ok (.invokevirtual 42, 3) := by decide +kernel
theorem dX5_steps_19 : decode cX5_steps 19 = .ok (.ireturn, 1) := by decide +kernel
theorem dX5_steps_20 : decode cX5_steps 20 = .ok (.aload_n 0, 1) := by decide +kernel
theorem dX5_steps_21 : decode cX5_steps 21 = .ok (.aload_n 0, 1) := by decide +kernel
theorem dX5_steps_22 : decode cX5_steps 22 = .ok (.getfield 9, 3) := by decide +kernel
theorem dX5_steps_25 : decode cX5_steps 25 = .ok (.invokevirtual 72, 3) := by decide +kernel
theorem dX5_steps_28 : decode cX5_steps 28 = .ok (.aload_n 0, 1) := by decide +kernel
theorem dX5_steps_29 : decode cX5_steps 29 = .ok (.getfield 22, 3) := by decide +kernel
theorem dX5_steps_32 : decode cX5_steps 32 = .ok (.bipush 8, 2) := by decide +kernel
theorem dX5_steps_34 : decode cX5_steps 34 = .ok (.iload_n 1, 1) := by decide +kernel
theorem dX5_steps_35 : decode cX5_steps 35 = .ok (.imul, 1) := by decide +kernel
theorem dX5_steps_36 : decode cX5_steps 36 = .ok (.iload_n 2, 1) := by decide +kernel
theorem dX5_steps_37 : decode cX5_steps 37 = .ok (.iadd, 1) := by decide +kernel
theorem dX5_steps_38 : decode cX5_steps 38 = .ok (.iaload, 1) := by decide +kernel
theorem dX5_steps_39 : decode cX5_steps 39 = .ok (.ireturn, 1) := by decide +kernel
theorem dX5_pulls_0 : decode cX5_pulls 0 = .ok (.aload_n 0, 1) := by decide +kernel
theorem dX5_pulls_1 : decode cX5_pulls 1 = .ok (.iload_n 1, 1) := by decide +kernel
theorem dX5_pulls_2 : decode cX5_pulls 2 = .ok (.invokevirtual 118, 3) := by decide +kernel
theorem dX5_pulls_5 : decode cX5_pulls 5 = .ok (.ifCond .eq 10, 3) := by decide +kernel
theorem dX5_pulls_8 : decode cX5_pulls 8 = .ok (.iload_n 2, 1) := by decide +kernel
theorem dX5_pulls_9 : decode cX5_pulls 9 = .ok (.invokestatic 104, 3) := by decide +kernel
theorem dX5_pulls_12 : decode cX5_pulls 12 = .ok (.ifCond .ne 9, 3) := by decide +kernel
theorem dX5_pulls_15 : decode cX5_pulls 15 = .ok (.aload_n 0, 1) := by decide +kernel
theorem dX5_pulls_16 : decode cX5_pulls 16 = .ok (.iconst (-1), 1) := by decide +kernel
theorem dX5_pulls_17 : decode cX5_pulls 17 = .ok (.invokevirtual 42, 3) := by decide +kernel
theorem dX5_pulls_20 : decode cX5_pulls 20 = .ok (.ireturn, 1) := by decide +kernel
theorem dX5_pulls_21 : decode cX5_pulls 21 = .ok (.aload_n 0, 1) := by decide +kernel
theorem dX5_pulls_22 : decode cX5_pulls 22 = .ok (.aload_n 0, 1) := by decide +kernel
theorem dX5_pulls_23 : decode cX5_pulls 23 = .ok (.getfield 9, 3) := by decide +kernel
theorem dX5_pulls_26 : decode cX5_pulls 26 = .ok (.invokevirtual 72, 3) := by decide +kernel
theorem dX5_pulls_29 : decode cX5_pulls 29 = .ok (.aload_n 0, 1) := by decide +kernel
theorem dX5_pulls_30 : decode cX5_pulls 30 = .ok (.aload_n 0, 1) := by decide +kernel
theorem dX5_pulls_31 : decode cX5_pulls 31 = .ok (.getfield 9, 3) := by decide +kernel
theorem dX5_pulls_34 : decode cX5_pulls 34 = .ok (.iload_n 1, 1) := by decide +kernel
theorem dX5_pulls_35 : decode cX5_pulls 35 = .ok (.iload_n 2, 1) := by decide +kernel
theorem dX5_pulls_36 : decode cX5_pulls 36 = .ok (.invokevirtual 61, 3) := by decide +kernel
theorem dX5_pulls_39 : decode cX5_pulls 39 = .ok (.ireturn, 1) := by decide +kernel
theorem dX5_roads_0 : decode cX5_roads 0 = .ok (.iload_n 1, 1) := by decide +kernel
theorem dX5_roads_1 : decode cX5_roads 1 = .ok (.invokestatic 104, 3) := by decide +kernel
theorem dX5_roads_4 : decode cX5_roads 4 = .ok (.ifCond .eq 15, 3) := by decide +kernel
theorem dX5_roads_7 : decode cX5_roads 7 = .ok (.iload_n 2, 1) := by decide +kernel
theorem dX5_roads_8 : decode cX5_roads 8 = .ok (.invokestatic 104, 3) := by decide +kernel
theorem dX5_roads_11 : decode cX5_roads 11 = .ok (.ifCond .eq 8, 3) := by decide +kernel
theorem dX5_roads_14 : decode cX5_roads 14 = .ok (.iload_n 1, 1) := by decide +kernel
theorem dX5_roads_15 : decode cX5_roads 15 = .ok (.iload_n 2, 1) := by decide +kernel
theorem dX5_roads_16 : decode cX5_roads 16 = .ok (.if_icmp .ne 9, 3) := by decide +kernel
theorem dX5_roads_19 : decode cX5_roads 19 = .ok (.aload_n 0, 1) := by decide +kernel
theorem dX5_roads_20 : decode cX5_roads 20 = .ok (.iconst (-1), 1) := by decide +kernel
theorem dX5_roads_21 : decode cX5_roads 21 = .ok (.invokevirtual 42, 3) := by decide +kernel
theorem dX5_roads_24 : decode cX5_roads 24 = .ok (.ireturn, 1) := by decide +kernel
theorem dX5_roads_25 : decode cX5_roads 25 = .ok (.aload_n 0, 1) := by decide +kernel
theorem dX5_roads_26 : decode cX5_roads 26 = .ok (.getfield 9, 3) := by decide +kernel
theorem dX5_roads_29 : decode cX5_roads 29 = .ok (.iload_n 1, 1) := by decide +kernel
theorem dX5_roads_30 : decode cX5_roads 30 = .ok (.iload_n 2, 1) := by decide +kernel
theorem dX5_roads_31 : decode cX5_roads 31 = .ok (.invokestatic 111, 3) := by decide +kernel
theorem dX5_roads_34 : decode cX5_roads 34 = .ok (.aload_n 0, 1) := by decide +kernel
theorem dX5_roads_35 : decode cX5_roads 35 = .ok (.getfield 9, 3) := by decide +kernel
theorem dX5_roads_38 : decode cX5_roads 38 = .ok (.iconst 2, 1) := by decide +kernel
theorem dX5_roads_39 : decode cX5_roads 39 = .ok (.iload_n 1, 1) := by decide +kernel
theorem dX5_roads_40 : decode cX5_roads 40 = .ok (.iadd, 1) := by decide +kernel
theorem dX5_roads_41 : decode cX5_roads 41 = .ok (.iaload, 1) := by decide +kernel
theorem dX5_roads_42 : decode cX5_roads 42 = .ok (.iload_n 2, 1) := by decide +kernel
theorem dX5_roads_43 : decode cX5_roads 43 = .ok (.ishr, 1) := by decide +kernel
theorem dX5_roads_44 : decode cX5_roads 44 = .ok (.iconst 1, 1) := by decide +kernel
theorem dX5_roads_45 : decode cX5_roads 45 = .ok (.iand, 1) := by decide +kernel
theorem dX5_roads_46 : decode cX5_roads 46 = .ok (.ireturn, 1) := by decide +kernel
theorem dX5_shod_0 : decode cX5_shod 0 = .ok (.aload_n 0, 1) := by decide +kernel
theorem dX5_shod_1 : decode cX5_shod 1 = .ok (.iload_n 1, 1) := by decide +kernel
theorem dX5_shod_2 : decode cX5_shod 2 = .ok (.invokevirtual 118, 3) := by decide +kernel
theorem dX5_shod_5 : decode cX5_shod 5 = .ok (.ifCond .ne 9, 3) := by decide +kernel
theorem dX5_shod_8 : decode cX5_shod 8 = .ok (.aload_n 0, 1) := by decide +kernel
theorem dX5_shod_9 : decode cX5_shod 9 = .ok (.iconst (-1), 1) := by decide +kernel
theorem dX5_shod_10 : decode cX5_shod 10 = .ok (.invokevirtual 42, 3) := by decide +kernel
theorem dX5_shod_13 : decode cX5_shod 13 = .ok (.ireturn, 1) := by decide +kernel
theorem dX5_shod_14 : decode cX5_shod 14 = .ok (.aload_n 0, 1) := by decide +kernel
theorem dX5_shod_15 : decode cX5_shod 15 = .ok (.getfield 9, 3) := by decide +kernel
theorem dX5_shod_18 : decode cX5_shod 18 = .ok (.iload_n 1, 1) := by decide +kernel
theorem dX5_shod_19 : decode cX5_shod 19 = .ok (.invokestatic 108, 3) := by decide +kernel
theorem dX5_shod_22 : decode cX5_shod 22 = .ok (.aload_n 0, 1) := by decide +kernel
theorem dX5_shod_23 : decode cX5_shod 23 = .ok (.getfield 9, 3) := by decide +kernel
theorem dX5_shod_26 : decode cX5_shod 26 = .ok (.iload_n 1, 1) := by decide +kernel
theorem dX5_shod_27 : decode cX5_shod 27 = .ok (.iconst 5, 1) := by decide +kernel
theorem dX5_shod_28 : decode cX5_shod 28 = .ok (.invokestatic 58, 3) := by decide +kernel
theorem dX5_shod_31 : decode cX5_shod 31 = .ok (.iaload, 1) := by decide +kernel
theorem dX5_shod_32 : decode cX5_shod 32 = .ok (.ireturn, 1) := by decide +kernel
theorem dX5_sets_0 : decode cX5_sets 0 = .ok (.aload_n 0, 1) := by decide +kernel
theorem dX5_sets_1 : decode cX5_sets 1 = .ok (.iload_n 1, 1) := by decide +kernel
theorem dX5_sets_2 : decode cX5_sets 2 = .ok (.invokevirtual 118, 3) := by decide +kernel
theorem dX5_sets_5 : decode cX5_sets 5 = .ok (.ifCond .eq 10, 3) := by decide +kernel
theorem dX5_sets_8 : decode cX5_sets 8 = .ok (.iload_n 3, 1) := by decide +kernel
theorem dX5_sets_9 : decode cX5_sets 9 = .ok (.invokestatic 104, 3) := by decide +kernel
theorem dX5_sets_12 : decode cX5_sets 12 = .ok (.ifCond .ne 9, 3) := by decide +kernel
theorem dX5_sets_15 : decode cX5_sets 15 = .ok (.aload_n 0, 1) := by decide +kernel
theorem dX5_sets_16 : decode cX5_sets 16 = .ok (.iconst (-1), 1) := by decide +kernel
theorem dX5_sets_17 : decode cX5_sets 17 = .ok (.invokevirtual 42, 3) := by decide +kernel
theorem dX5_sets_20 : decode cX5_sets 20 = .ok (.ireturn, 1) := by decide +kernel
theorem dX5_sets_21 : decode cX5_sets 21 = .ok (.aload_n 0, 1) := by decide +kernel
theorem dX5_sets_22 : decode cX5_sets 22 = .ok (.getfield 9, 3) := by decide +kernel
theorem dX5_sets_25 : decode cX5_sets 25 = .ok (.iload_n 1, 1) := by decide +kernel
theorem dX5_sets_26 : decode cX5_sets 26 = .ok (.iload_n 2, 1) := by decide +kernel
theorem dX5_sets_27 : decode cX5_sets 27 = .ok (.invokestatic 58, 3) := by decide +kernel
theorem dX5_sets_30 : decode cX5_sets 30 = .ok (.iaload, 1) := by decide +kernel
theorem dX5_sets_31 : decode cX5_sets 31 = .ok (.istore 4, 2) := by decide +kernel
theorem dX5_sets_33 : decode cX5_sets 33 = .ok (.aload_n 0, 1) := by decide +kernel
theorem dX5_sets_34 : decode cX5_sets 34 = .ok (.getfield 9, 3) := by decide +kernel
theorem dX5_sets_37 : decode cX5_sets 37 = .ok (.iload_n 1, 1) := by decide +kernel
theorem dX5_sets_38 : decode cX5_sets 38 = .ok (.iload_n 2, 1) := by decide +kernel
theorem dX5_sets_39 : decode cX5_sets 39 = .ok (.invokestatic 58, 3) := by decide +kernel
theorem dX5_sets_42 : decode cX5_sets 42 = .ok (.iload_n 3, 1) := by decide +kernel
theorem dX5_sets_43 : decode cX5_sets 43 = .ok (.iastore, 1) := by decide +kernel
theorem dX5_sets_44 : decode cX5_sets 44 = .ok (.iload 4, 2) := by decide +kernel
theorem dX5_sets_46 : decode cX5_sets 46 = .ok (.ireturn, 1) := by decide +kernel
theorem dX5_wants_0 : decode cX5_wants 0 = .ok (.aload_n 0, 1) := by decide +kernel
theorem dX5_wants_1 : decode cX5_wants 1 = .ok (.iload_n 1, 1) := by decide +kernel
theorem dX5_wants_2 : decode cX5_wants 2 = .ok (.iconst 2, 1) := by decide +kernel
theorem dX5_wants_3 : decode cX5_wants 3 = .ok (.iload_n 2, 1) := by decide +kernel
theorem dX5_wants_4 : decode cX5_wants 4 = .ok (.invokevirtual 134, 3) := by decide +kernel
theorem dX5_wants_7 : decode cX5_wants 7 = .ok (.ireturn, 1) := by decide +kernel
theorem dX5_stands_0 : decode cX5_stands 0 = .ok (.aload_n 0, 1) := by decide +kernel
theorem dX5_stands_1 : decode cX5_stands 1 = .ok (.iload_n 1, 1) := by decide +kernel
theorem dX5_stands_2 : decode cX5_stands 2 = .ok (.iconst 4, 1) := by decide +kernel
theorem dX5_stands_3 : decode cX5_stands 3 = .ok (.iload_n 2, 1) := by decide +kernel
theorem dX5_stands_4 : decode cX5_stands 4 = .ok (.invokevirtual 134, 3) := by decide +kernel
theorem dX5_stands_7 : decode cX5_stands 7 = .ok (.ireturn, 1) := by decide +kernel
theorem dX5_wrongBy_0 : decode cX5_wrongBy 0 = .ok (.iload_n 0, 1) := by decide +kernel
theorem dX5_wrongBy_1 : decode cX5_wrongBy 1 = .ok (.iload_n 1, 1) := by decide +kernel
theorem dX5_wrongBy_2 : decode cX5_wrongBy 2 = .ok (.if_icmp .ge 8, 3) := by decide +kernel
theorem dX5_wrongBy_5 : decode cX5_wrongBy 5 = .ok (.bipush (-4), 2) := by decide +kernel
theorem dX5_wrongBy_7 : decode cX5_wrongBy 7 = .ok (.goto 14, 3) := by decide +kernel
theorem dX5_wrongBy_10 : decode cX5_wrongBy 10 = .ok (.iload_n 0, 1) := by decide +kernel
theorem dX5_wrongBy_11 : decode cX5_wrongBy 11 = .ok (.iload_n 2, 1) := by decide +kernel
theorem dX5_wrongBy_12 : decode cX5_wrongBy 12 = .ok (.if_icmp .le 8, 3) := by decide +kernel
theorem dX5_wrongBy_15 : decode cX5_wrongBy 15 = .ok (.bipush (-6), 2) := by decide +kernel
theorem dX5_wrongBy_17 : decode cX5_wrongBy 17 = .ok (.goto 4, 3) := by decide +kernel
theorem dX5_wrongBy_20 : decode cX5_wrongBy 20 = .ok (.iconst 0, 1) := by decide +kernel
theorem dX5_wrongBy_21 : decode cX5_wrongBy 21 = .ok (.ireturn, 1) := by decide +kernel
theorem dX5_turn_0 : decode cX5_turn 0 = .ok (.aload_n 0, 1) := by decide +kernel
theorem dX5_turn_1 : decode cX5_turn 1 = .ok (.iload_n 1, 1) := by decide +kernel
theorem dX5_turn_2 : decode cX5_turn 2 = .ok (.invokevirtual 118, 3) := by decide +kernel
theorem dX5_turn_5 : decode cX5_turn 5 = .ok (.ifCond .ne 7, 3) := by decide +kernel
theorem dX5_turn_8 : decode cX5_turn 8 = .ok (.iconst (-1), 1) := by decide +kernel
theorem dX5_turn_9 : decode cX5_turn 9 = .ok (.goto 24, 3) := by decide +kernel
theorem dX5_turn_12 : decode cX5_turn 12 = .ok (.iload_n 2, 1) := by decide +kernel
theorem dX5_turn_13 : decode cX5_turn 13 = .ok (.iconst 0, 1) := by decide +kernel
theorem dX5_turn_14 : decode cX5_turn 14 = .ok (.iconst 5, 1) := by decide +kernel
theorem dX5_turn_15 : decode cX5_turn 15 = .ok (.invokestatic 46, 3) := by decide +kernel
theorem dX5_turn_18 : decode cX5_turn 18 = .ok (.ifCond .ne 8, 3) := by decide +kernel
theorem dX5_turn_21 : decode cX5_turn 21 = .ok (.bipush (-2), 2) := by decide +kernel
theorem dX5_turn_23 : decode cX5_turn 23 = .ok (.goto 10, 3) := by decide +kernel
theorem dX5_turn_26 : decode cX5_turn 26 = .ok (.iload_n 3, 1) := by decide +kernel
theorem dX5_turn_27 : decode cX5_turn 27 = .ok (.iconst 0, 1) := by decide +kernel
theorem dX5_turn_28 : decode cX5_turn 28 = .ok (.bipush 9, 2) := by decide +kernel
theorem dX5_turn_30 : decode cX5_turn 30 = .ok (.invokestatic 138, 3) := by decide +kernel
theorem dX5_turn_33 : decode cX5_turn 33 = .ok (.istore 4, 2) := by decide +kernel
theorem dX5_turn_35 : decode cX5_turn 35 = .ok (.iload 4, 2) := by decide +kernel
theorem dX5_turn_37 : decode cX5_turn 37 = .ok (.ifCond .eq 10, 3) := by decide +kernel
theorem dX5_turn_40 : decode cX5_turn 40 = .ok (.aload_n 0, 1) := by decide +kernel
theorem dX5_turn_41 : decode cX5_turn 41 = .ok (.iload 4, 2) := by decide +kernel
theorem dX5_turn_43 : decode cX5_turn 43 = .ok (.invokevirtual 42, 3) := by decide +kernel
theorem dX5_turn_46 : decode cX5_turn 46 = .ok (.ireturn, 1) := by decide +kernel
theorem dX5_turn_47 : decode cX5_turn 47 = .ok (.bipush 10, 2) := by decide +kernel
theorem dX5_turn_49 : decode cX5_turn 49 = .ok (.aload_n 0, 1) := by decide +kernel
theorem dX5_turn_50 : decode cX5_turn 50 = .ok (.getfield 9, 3) := by decide +kernel
theorem dX5_turn_53 : decode cX5_turn 53 = .ok (.iload_n 1, 1) := by decide +kernel
theorem dX5_turn_54 : decode cX5_turn 54 = .ok (.iconst 0, 1) := by decide +kernel
theorem dX5_turn_55 : decode cX5_turn 55 = .ok (.invokestatic 58, 3) := by decide +kernel
theorem dX5_turn_58 : decode cX5_turn 58 = .ok (.iaload, 1) := by decide +kernel
theorem dX5_turn_59 : decode cX5_turn 59 = .ok (.imul, 1) := by decide +kernel
theorem dX5_turn_60 : decode cX5_turn 60 = .ok (.aload_n 0, 1) := by decide +kernel
theorem dX5_turn_61 : decode cX5_turn 61 = .ok (.getfield 9, 3) := by decide +kernel
theorem dX5_turn_64 : decode cX5_turn 64 = .ok (.iload_n 1, 1) := by decide +kernel
theorem dX5_turn_65 : decode cX5_turn 65 = .ok (.iconst 1, 1) := by decide +kernel
theorem dX5_turn_66 : decode cX5_turn 66 = .ok (.invokestatic 58, 3) := by decide +kernel
theorem dX5_turn_69 : decode cX5_turn 69 = .ok (.iaload, 1) := by decide +kernel
theorem dX5_turn_70 : decode cX5_turn 70 = .ok (.iadd, 1) := by decide +kernel
theorem dX5_turn_71 : decode cX5_turn 71 = .ok (.istore 5, 2) := by decide +kernel
theorem dX5_turn_73 : decode cX5_turn 73 = .ok (.aload_n 0, 1) := by decide +kernel
theorem dX5_turn_74 : decode cX5_turn 74 = .ok (.getfield 9, 3) := by decide +kernel
theorem dX5_turn_77 : decode cX5_turn 77 = .ok (.iload_n 1, 1) := by decide +kernel
theorem dX5_turn_78 : decode cX5_turn 78 = .ok (.iconst 0, 1) := by decide +kernel
theorem dX5_turn_79 : decode cX5_turn 79 = .ok (.invokestatic 58, 3) := by decide +kernel
theorem dX5_turn_82 : decode cX5_turn 82 = .ok (.iload_n 2, 1) := by decide +kernel
theorem dX5_turn_83 : decode cX5_turn 83 = .ok (.iastore, 1) := by decide +kernel
theorem dX5_turn_84 : decode cX5_turn 84 = .ok (.aload_n 0, 1) := by decide +kernel
theorem dX5_turn_85 : decode cX5_turn 85 = .ok (.getfield 9, 3) := by decide +kernel
theorem dX5_turn_88 : decode cX5_turn 88 = .ok (.iload_n 1, 1) := by decide +kernel
theorem dX5_turn_89 : decode cX5_turn 89 = .ok (.iconst 1, 1) := by decide +kernel
theorem dX5_turn_90 : decode cX5_turn 90 = .ok (.invokestatic 58, 3) := by decide +kernel
theorem dX5_turn_93 : decode cX5_turn 93 = .ok (.iload_n 3, 1) := by decide +kernel
theorem dX5_turn_94 : decode cX5_turn 94 = .ok (.iastore, 1) := by decide +kernel
theorem dX5_turn_95 : decode cX5_turn 95 = .ok (.iload 5, 2) := by decide +kernel
theorem dX5_turn_97 : decode cX5_turn 97 = .ok (.ireturn, 1) := by decide +kernel
theorem dX5_days_0 : decode cX5_days 0 = .ok (.iload_n 1, 1) := by decide +kernel
theorem dX5_days_1 : decode cX5_days 1 = .ok (.iconst 1, 1) := by decide +kernel
theorem dX5_days_2 : decode cX5_days 2 = .ok (.if_icmp .ge 10, 3) := by decide +kernel
theorem dX5_days_5 : decode cX5_days 5 = .ok (.aload_n 0, 1) := by decide +kernel
theorem dX5_days_6 : decode cX5_days 6 = .ok (.bipush (-4), 2) := by decide +kernel
theorem dX5_days_8 : decode cX5_days 8 = .ok (.invokevirtual 42, 3) := by decide +kernel
theorem dX5_days_11 : decode cX5_days 11 = .ok (.ireturn, 1) := by decide +kernel
theorem dX5_days_12 : decode cX5_days 12 = .ok (.iload_n 1, 1) := by decide +kernel
theorem dX5_days_13 : decode cX5_days 13 = .ok (.bipush 60, 2) := by decide +kernel
theorem dX5_days_15 : decode cX5_days 15 = .ok (.if_icmp .gt 17, 3) := by decide +kernel
theorem dX5_days_18 : decode cX5_days 18 = .ok (.aload_n 0, 1) := by decide +kernel
theorem dX5_days_19 : decode cX5_days 19 = .ok (.getfield 9, 3) := by decide +kernel
theorem dX5_days_22 : decode cX5_days 22 = .ok (.iconst 1, 1) := by decide +kernel
theorem dX5_days_23 : decode cX5_days 23 = .ok (.iaload, 1) := by decide +kernel
theorem dX5_days_24 : decode cX5_days 24 = .ok (.iload_n 1, 1) := by decide +kernel
theorem dX5_days_25 : decode cX5_days 25 = .ok (.iadd, 1) := by decide +kernel
theorem dX5_days_26 : decode cX5_days 26 = .ok (.sipush 999, 3) := by decide +kernel
theorem dX5_days_29 : decode cX5_days 29 = .ok (.if_icmp .le 10, 3) := by decide +kernel
theorem dX5_days_32 : decode cX5_days 32 = .ok (.aload_n 0, 1) := by decide +kernel
theorem dX5_days_33 : decode cX5_days 33 = .ok (.bipush (-6), 2) := by decide +kernel
theorem dX5_days_35 : decode cX5_days 35 = .ok (.invokevirtual 42, 3) := by decide +kernel
theorem dX5_days_38 : decode cX5_days 38 = .ok (.ireturn, 1) := by decide +kernel
theorem dX5_days_39 : decode cX5_days 39 = .ok (.aload_n 0, 1) := by decide +kernel
theorem dX5_days_40 : decode cX5_days 40 = .ok (.aload_n 0, 1) := by decide +kernel
theorem dX5_days_41 : decode cX5_days 41 = .ok (.getfield 9, 3) := by decide +kernel
theorem dX5_days_44 : decode cX5_days 44 = .ok (.iload_n 1, 1) := by decide +kernel
theorem dX5_days_45 : decode cX5_days 45 = .ok (.invokevirtual 121, 3) := by decide +kernel
theorem dX5_days_48 : decode cX5_days 48 = .ok (.aload_n 0, 1) := by decide +kernel
theorem dX5_days_49 : decode cX5_days 49 = .ok (.getfield 9, 3) := by decide +kernel
theorem dX5_days_52 : decode cX5_days 52 = .ok (.invokestatic 141, 3) := by decide +kernel
theorem dX5_days_55 : decode cX5_days 55 = .ok (.invokestatic 145, 3) := by decide +kernel
theorem dX5_days_58 : decode cX5_days 58 = .ok (.ireturn, 1) := by decide +kernel
theorem dX5_takes_0 : decode cX5_takes 0 = .ok (.aload_n 0, 1) := by decide +kernel
theorem dX5_takes_1 : decode cX5_takes 1 = .ok (.getfield 9, 3) := by decide +kernel
theorem dX5_takes_4 : decode cX5_takes 4 = .ok (.aload_n 0, 1) := by decide +kernel
theorem dX5_takes_5 : decode cX5_takes 5 = .ok (.getfield 13, 3) := by decide +kernel
theorem dX5_takes_8 : decode cX5_takes 8 = .ok (.invokestatic 127, 3) := by decide +kernel
theorem dX5_takes_11 : decode cX5_takes 11 = .ok (.aload_n 0, 1) := by decide +kernel
theorem dX5_takes_12 : decode cX5_takes 12 = .ok (.aload_n 0, 1) := by decide +kernel
theorem dX5_takes_13 : decode cX5_takes 13 = .ok (.getfield 13, 3) := by decide +kernel
theorem dX5_takes_16 : decode cX5_takes 16 = .ok (.iload_n 1, 1) := by decide +kernel
theorem dX5_takes_17 : decode cX5_takes 17 = .ok (.invokevirtual 121, 3) := by decide +kernel
theorem dX5_takes_20 : decode cX5_takes 20 = .ok (.return_, 1) := by decide +kernel
theorem dX5_riderThen_0 : decode cX5_riderThen 0 = .ok (.aload_n 0, 1) := by decide +kernel
theorem dX5_riderThen_1 : decode cX5_riderThen 1 = .ok (.iload_n 1, 1) := by decide +kernel
theorem dX5_riderThen_2 : decode cX5_riderThen 2 = .ok (.invokevirtual 118, 3) := by decide +kernel
theorem dX5_riderThen_5 : decode cX5_riderThen 5 = .ok (.ifCond .eq 13, 3) := by decide +kernel
theorem dX5_riderThen_8 : decode cX5_riderThen 8 = .ok (.iload_n 2, 1) := by decide +kernel
theorem dX5_riderThen_9 : decode cX5_riderThen 9 = .ok (.iconst 0, 1) := by decide +kernel
theorem dX5_riderThen_10 : decode cX5_riderThen 10 = .ok (.bipush 60, 2) := by decide +kernel
theorem dX5_riderThen_12 : decode cX5_riderThen 12 = .ok (.invokestatic 138, 3) := by decide +kernel
theorem dX5_riderThen_15 : decode cX5_riderThen 15 = .ok (.goto 4, 3) := by decide +kernel
theorem dX5_riderThen_18 : decode cX5_riderThen 18 = .ok (.iconst (-1), 1) := by decide +kernel
theorem dX5_riderThen_19 : decode cX5_riderThen 19 = .ok (.istore 4, 2) := by decide +kernel
theorem dX5_riderThen_21 : decode cX5_riderThen 21 = .ok (.iload 4, 2) := by decide +kernel
theorem dX5_riderThen_23 : decode cX5_riderThen 23 = .ok (.ifCond .ne 16, 3) := by decide +kernel
theorem dX5_riderThen_26 : decode cX5_riderThen 26 = .ok (.iload_n 3, 1) := by decide +kernel
theorem dX5_riderThen_27 : decode cX5_riderThen 27 = .ok (.iconst 0, 1) := by decide +kernel
theorem dX5_riderThen_28 : decode cX5_riderThen 28 = .ok (.iconst 1, 1) := by decide +kernel
theorem dX5_riderThen_29 : decode cX5_riderThen 29 = .ok (.invokestatic 46, 3) := by decide +kernel
theorem dX5_riderThen_32 : decode cX5_riderThen 32 = .ok (.ifCond .ne 7, 3) := by decide +kernel
theorem dX5_riderThen_35 : decode cX5_riderThen 35 = .ok (.bipush (-2), 2) := by decide +kernel
theorem dX5_riderThen_37 : decode cX5_riderThen 37 = .ok (.istore 4, 2) := by decide +kernel
theorem dX5_riderThen_39 : decode cX5_riderThen 39 = .ok (.iload 4, 2) := by decide +kernel
theorem dX5_riderThen_41 : decode cX5_riderThen 41 = .ok (.ifCond .eq 10, 3) := by decide +kernel
theorem dX5_riderThen_44 : decode cX5_riderThen 44 = .ok (.aload_n 0, 1) := by decide +kernel
theorem dX5_riderThen_45 : decode cX5_riderThen 45 = .ok (.iload 4, 2) := by decide +kernel
theorem dX5_riderThen_47 : decode cX5_riderThen 47 = .ok (.invokevirtual 42, 3) := by decide +kernel
theorem dX5_riderThen_50 : decode cX5_riderThen 50 = .ok (.ireturn, 1) := by decide +kernel
theorem dX5_riderThen_51 : decode cX5_riderThen 51 = .ok (.aload_n 0, 1) := by decide +kernel
theorem dX5_riderThen_52 : decode cX5_riderThen 52 = .ok (.iload_n 2, 1) := by decide +kernel
theorem dX5_riderThen_53 : decode cX5_riderThen 53 = .ok (.invokevirtual 148, 3) := by decide +kernel
theorem dX5_riderThen_56 : decode cX5_riderThen 56 = .ok (.aload_n 0, 1) := by decide +kernel
theorem dX5_riderThen_57 : decode cX5_riderThen 57 = .ok (.getfield 13, 3) := by decide +kernel
theorem dX5_riderThen_60 : decode cX5_riderThen 60 = .ok (.iload_n 1, 1) := by decide +kernel
theorem dX5_riderThen_61 : decode cX5_riderThen 61 = .ok (.iconst 4, 1) := by decide +kernel
theorem dX5_riderThen_62 : decode cX5_riderThen 62 = .ok (.iload_n 3, 1) := by decide +kernel
theorem dX5_riderThen_63 : decode cX5_riderThen 63 = .ok (.iadd, 1) := by decide +kernel
theorem dX5_riderThen_64 : decode cX5_riderThen 64 = .ok (.invokestatic 58, 3) := by decide +kernel
theorem dX5_riderThen_67 : decode cX5_riderThen 67 = .ok (.iaload, 1) := by decide +kernel
theorem dX5_riderThen_68 : decode cX5_riderThen 68 = .ok (.ireturn, 1) := by decide +kernel
theorem dX5_comesIn_0 : decode cX5_comesIn 0 = .ok (.aload_n 0, 1) := by decide +kernel
theorem dX5_comesIn_1 : decode cX5_comesIn 1 = .ok (.aload_n 0, 1) := by decide +kernel
theorem dX5_comesIn_2 : decode cX5_comesIn 2 = .ok (.getfield 13, 3) := by decide +kernel
theorem dX5_comesIn_5 : decode cX5_comesIn 5 = .ok (.invokevirtual 72, 3) := by decide +kernel
theorem dX5_comesIn_8 : decode cX5_comesIn 8 = .ok (.iconst 0, 1) := by decide +kernel
theorem dX5_comesIn_9 : decode cX5_comesIn 9 = .ok (.istore_n 3, 1) := by decide +kernel
theorem dX5_comesIn_10 : decode cX5_comesIn 10 = .ok (.iload_n 3, 1) := by decide +kernel
theorem dX5_comesIn_11 : decode cX5_comesIn 11 = .ok (.bipush 60, 2) := by decide +kernel
theorem dX5_comesIn_13 : decode cX5_comesIn 13 = .ok (.if_icmp .gt 34, 3) := by decide +kernel
theorem dX5_comesIn_16 : decode cX5_comesIn 16 = .ok (.aload_n 0, 1) := by decide +kernel
theorem dX5_comesIn_17 : decode cX5_comesIn 17 = .ok (.getfield 13, 3) := by decide +kernel
theorem dX5_comesIn_20 : decode cX5_comesIn 20 = .ok (.iload_n 1, 1) := by decide +kernel
theorem dX5_comesIn_21 : decode cX5_comesIn 21 = .ok (.iconst 4, 1) := by decide +kernel
theorem dX5_comesIn_22 : decode cX5_comesIn 22 = .ok (.invokestatic 58, 3) := by decide +kernel
theorem dX5_comesIn_25 : decode cX5_comesIn 25 = .ok (.iaload, 1) := by decide +kernel
theorem dX5_comesIn_26 : decode cX5_comesIn 26 = .ok (.iload_n 2, 1) := by decide +kernel
theorem dX5_comesIn_27 : decode cX5_comesIn 27 = .ok (.if_icmp .ne 5, 3) := by decide +kernel
theorem dX5_comesIn_30 : decode cX5_comesIn 30 = .ok (.iload_n 3, 1) := by decide +kernel
theorem dX5_comesIn_31 : decode cX5_comesIn 31 = .ok (.ireturn, 1) := by decide +kernel
theorem dX5_comesIn_32 : decode cX5_comesIn 32 = .ok (.aload_n 0, 1) := by decide +kernel
theorem dX5_comesIn_33 : decode cX5_comesIn 33 = .ok (.aload_n 0, 1) := by decide +kernel
theorem dX5_comesIn_34 : decode cX5_comesIn 34 = .ok (.getfield 13, 3) := by decide +kernel
theorem dX5_comesIn_37 : decode cX5_comesIn 37 = .ok (.iconst 0, 1) := by decide +kernel
theorem dX5_comesIn_38 : decode cX5_comesIn 38 = .ok (.invokevirtual 76, 3) := by decide +kernel
theorem dX5_comesIn_41 : decode cX5_comesIn 41 = .ok (.iinc 3 1, 3) := by decide +kernel
theorem dX5_comesIn_44 : decode cX5_comesIn 44 = .ok (.goto (-34), 3) := by decide +kernel
theorem dX5_comesIn_47 : decode cX5_comesIn 47 = .ok (.bipush (-9), 2) := by decide +kernel
theorem dX5_comesIn_49 : decode cX5_comesIn 49 = .ok (.ireturn, 1) := by decide +kernel
theorem dX5_comesNow_0 : decode cX5_comesNow 0 = .ok (.aload_n 0, 1) := by decide +kernel
theorem dX5_comesNow_1 : decode cX5_comesNow 1 = .ok (.getfield 9, 3) := by decide +kernel
theorem dX5_comesNow_4 : decode cX5_comesNow 4 = .ok (.aload_n 0, 1) := by decide +kernel
theorem dX5_comesNow_5 : decode cX5_comesNow 5 = .ok (.getfield 13, 3) := by decide +kernel
theorem dX5_comesNow_8 : decode cX5_comesNow 8 = .ok (.invokestatic 127, 3) := by decide +kernel
theorem dX5_comesNow_11 : decode cX5_comesNow 11 = .ok (.aload_n 0, 1) := by decide +kernel
theorem dX5_comesNow_12 : decode cX5_comesNow 12 = .ok (.iload_n 1, 1) := by decide +kernel
theorem dX5_comesNow_13 : decode cX5_comesNow 13 = .ok (.iload_n 2, 1) := by decide +kernel
theorem dX5_comesNow_14 : decode cX5_comesNow 14 = .ok (.invokevirtual 152, 3) := by decide +kernel
theorem dX5_comesNow_17 : decode cX5_comesNow 17 = .ok (.ireturn, 1) := by decide +kernel
theorem dX5_areWrong_0 : decode cX5_areWrong 0 = .ok (.aload_n 0, 1) := by decide +kernel
theorem dX5_areWrong_1 : decode cX5_areWrong 1 = .ok (.iload_n 1, 1) := by decide +kernel
theorem dX5_areWrong_2 : decode cX5_areWrong 2 = .ok (.invokevirtual 118, 3) := by decide +kernel
theorem dX5_areWrong_5 : decode cX5_areWrong 5 = .ok (.ifCond .eq 10, 3) := by decide +kernel
theorem dX5_areWrong_8 : decode cX5_areWrong 8 = .ok (.iload_n 2, 1) := by decide +kernel
theorem dX5_areWrong_9 : decode cX5_areWrong 9 = .ok (.invokestatic 104, 3) := by decide +kernel
theorem dX5_areWrong_12 : decode cX5_areWrong 12 = .ok (.ifCond .ne 7, 3) := by decide +kernel
theorem dX5_areWrong_15 : decode cX5_areWrong 15 = .ok (.iconst 1, 1) := by decide +kernel
theorem dX5_areWrong_16 : decode cX5_areWrong 16 = .ok (.goto 4, 3) := by decide +kernel
theorem dX5_areWrong_19 : decode cX5_areWrong 19 = .ok (.iconst 0, 1) := by decide +kernel
theorem dX5_areWrong_20 : decode cX5_areWrong 20 = .ok (.ireturn, 1) := by decide +kernel
theorem dX5_comes_0 : decode cX5_comes 0 = .ok (.aload_n 0, 1) := by decide +kernel
theorem dX5_comes_1 : decode cX5_comes 1 = .ok (.iload_n 1, 1) := by decide +kernel
theorem dX5_comes_2 : decode cX5_comes 2 = .ok (.iload_n 2, 1) := by decide +kernel
theorem dX5_comes_3 : decode cX5_comes 3 = .ok (.invokevirtual 155, 3) := by decide +kernel
theorem dX5_comes_6 : decode cX5_comes 6 = .ok (.ifCond .eq 11, 3) := by decide +kernel
theorem dX5_comes_9 : decode cX5_comes 9 = .ok (.aload_n 0, 1) := by decide +kernel
theorem dX5_comes_10 : decode cX5_comes 10 = .ok (.iconst (-1), 1) := by decide +kernel
theorem dX5_comes_11 : decode cX5_comes 11 = .ok (.invokevirtual 42, 3) := by decide +kernel
theorem dX5_comes_14 : decode cX5_comes 14 = .ok (.goto 9, 3) := by decide +kernel
theorem dX5_comes_17 : decode cX5_comes 17 = .ok (.aload_n 0, 1) := by decide +kernel
theorem dX5_comes_18 : decode cX5_comes 18 = .ok (.iload_n 1, 1) := by decide +kernel
theorem dX5_comes_19 : decode cX5_comes 19 = .ok (.iload_n 2, 1) := by decide +kernel
theorem dX5_comes_20 : decode cX5_comes 20 = .ok (.invokevirtual 158, 3) := by decide +kernel
theorem dX5_comes_23 : decode cX5_comes 23 = .ok (.ireturn, 1) := by decide +kernel
theorem dX5_orNever_0 : decode cX5_orNever 0 = .ok (.iload_n 0, 1) := by decide +kernel
theorem dX5_orNever_1 : decode cX5_orNever 1 = .ok (.ifCond .ge 8, 3) := by decide +kernel
theorem dX5_orNever_4 : decode cX5_orNever 4 = .ok (.bipush 61, 2) := by decide +kernel
theorem dX5_orNever_6 : decode cX5_orNever 6 = .ok (.goto 4, 3) := by decide +kernel
theorem dX5_orNever_9 : decode cX5_orNever 9 = .ok (.iload_n 0, 1) := by decide +kernel
theorem dX5_orNever_10 : decode cX5_orNever 10 = .ok (.ireturn, 1) := by decide +kernel
theorem dX5_first_0 : decode cX5_first 0 = .ok (.iload_n 1, 1) := by decide +kernel
theorem dX5_first_1 : decode cX5_first 1 = .ok (.invokestatic 104, 3) := by decide +kernel
theorem dX5_first_4 : decode cX5_first 4 = .ok (.ifCond .ne 9, 3) := by decide +kernel
theorem dX5_first_7 : decode cX5_first 7 = .ok (.aload_n 0, 1) := by decide +kernel
theorem dX5_first_8 : decode cX5_first 8 = .ok (.iconst (-1), 1) := by decide +kernel
theorem dX5_first_9 : decode cX5_first 9 = .ok (.invokevirtual 42, 3) := by decide +kernel
theorem dX5_first_12 : decode cX5_first 12 = .ok (.ireturn, 1) := by decide +kernel
theorem dX5_first_13 : decode cX5_first 13 = .ok (.bipush (-9), 2) := by decide +kernel
theorem dX5_first_15 : decode cX5_first 15 = .ok (.istore_n 2, 1) := by decide +kernel
theorem dX5_first_16 : decode cX5_first 16 = .ok (.bipush 61, 2) := by decide +kernel
theorem dX5_first_18 : decode cX5_first 18 = .ok (.istore_n 3, 1) := by decide +kernel
theorem dX5_first_19 : decode cX5_first 19 = .ok (.iconst 0, 1) := by decide +kernel
theorem dX5_first_20 : decode cX5_first 20 = .ok (.istore 4, 2) := by decide +kernel
theorem dX5_first_22 : decode cX5_first 22 = .ok (.iload 4, 2) := by decide +kernel
theorem dX5_first_24 : decode cX5_first 24 = .ok (.aload_n 0, 1) := by decide +kernel
theorem dX5_first_25 : decode cX5_first 25 = .ok (.getfield 9, 3) := by decide +kernel
theorem dX5_first_28 : decode cX5_first 28 = .ok (.iconst 0, 1) := by decide +kernel
theorem dX5_first_29 : decode cX5_first 29 = .ok (.iaload, 1) := by decide +kernel
theorem dX5_first_30 : decode cX5_first 30 = .ok (.if_icmp .ge 36, 3) := by decide +kernel
theorem dX5_first_33 : decode cX5_first 33 = .ok (.aload_n 0, 1) := by decide +kernel
theorem dX5_first_34 : decode cX5_first 34 = .ok (.iload 4, 2) := by decide +kernel
theorem dX5_first_36 : decode cX5_first 36 = .ok (.iload_n 1, 1) := by decide +kernel
theorem dX5_first_37 : decode cX5_first 37 = .ok (.invokevirtual 158, 3) := by decide +kernel
theorem dX5_first_40 : decode cX5_first 40 = .ok (.invokestatic 161, 3) := by decide +kernel
theorem dX5_first_43 : decode cX5_first 43 = .ok (.istore 5, 2) := by decide +kernel
theorem dX5_first_45 : decode cX5_first 45 = .ok (.iload 5, 2) := by decide +kernel
theorem dX5_first_47 : decode cX5_first 47 = .ok (.iload_n 3, 1) := by decide +kernel
theorem dX5_first_48 : decode cX5_first 48 = .ok (.if_icmp .lt 6, 3) := by decide +kernel
theorem dX5_first_51 : decode cX5_first 51 = .ok (.goto 9, 3) := by decide +kernel
theorem dX5_first_54 : decode cX5_first 54 = .ok (.iload 4, 2) := by decide +kernel
theorem dX5_first_56 : decode cX5_first 56 = .ok (.istore_n 2, 1) := by decide +kernel
theorem dX5_first_57 : decode cX5_first 57 = .ok (.iload 5, 2) := by decide +kernel
theorem dX5_first_59 : decode cX5_first 59 = .ok (.istore_n 3, 1) := by decide +kernel
theorem dX5_first_60 : decode cX5_first 60 = .ok (.iinc 4 1, 3) := by decide +kernel
theorem dX5_first_63 : decode cX5_first 63 = .ok (.goto (-41), 3) := by decide +kernel
theorem dX5_first_66 : decode cX5_first 66 = .ok (.iload_n 2, 1) := by decide +kernel
theorem dX5_first_67 : decode cX5_first 67 = .ok (.ireturn, 1) := by decide +kernel
theorem dX5_isResting_0 : decode cX5_isResting 0 = .ok (.aload_n 0, 1) := by decide +kernel
theorem dX5_isResting_1 : decode cX5_isResting 1 = .ok (.iload_n 2, 1) := by decide +kernel
theorem dX5_isResting_2 : decode cX5_isResting 2 = .ok (.invokevirtual 148, 3) := by decide +kernel
theorem dX5_isResting_5 : decode cX5_isResting 5 = .ok (.aload_n 0, 1) := by decide +kernel
theorem dX5_isResting_6 : decode cX5_isResting 6 = .ok (.getfield 13, 3) := by decide +kernel
theorem dX5_isResting_9 : decode cX5_isResting 9 = .ok (.iload_n 1, 1) := by decide +kernel
theorem dX5_isResting_10 : decode cX5_isResting 10 = .ok (.iconst 4, 1) := by decide +kernel
theorem dX5_isResting_11 : decode cX5_isResting 11 = .ok (.invokestatic 58, 3) := by decide +kernel
theorem dX5_isResting_14 : decode cX5_isResting 14 = .ok (.iaload, 1) := by decide +kernel
theorem dX5_isResting_15 : decode cX5_isResting 15 = .ok (.istore_n 3, 1) := by decide +kernel
theorem dX5_isResting_16 : decode cX5_isResting 16 = .ok (.iconst 1, 1) := by decide +kernel
theorem dX5_isResting_17 : decode cX5_isResting 17 = .ok (.istore 4, 2) := by decide +kernel
theorem dX5_isResting_19 : decode cX5_isResting 19 = .ok (.iconst 0, 1) := by decide +kernel
theorem dX5_isResting_20 : decode cX5_isResting 20 = .ok (.istore 5, 2) := by decide +kernel
theorem dX5_isResting_22 : decode cX5_isResting 22 = .ok (.iload 5, 2) := by decide +kernel
theorem dX5_isResting_24 : decode cX5_isResting 24 = .ok (.iconst 5, 1) := by decide +kernel
theorem dX5_isResting_25 : decode cX5_isResting 25 = .ok (.if_icmp .ge 42, 3) := by decide +kernel
theorem dX5_isResting_28 : decode cX5_isResting 28 = .ok (.aload_n 0, 1) := by decide +kernel
theorem dX5_isResting_29 : decode cX5_isResting 29 = .ok (.aload_n 0, 1) := by decide +kernel
theorem dX5_isResting_30 : decode cX5_isResting 30 = .ok (.getfield 13, 3) := by decide +kernel
theorem dX5_isResting_33 : decode cX5_isResting 33 = .ok (.iconst 0, 1) := by decide +kernel
theorem dX5_isResting_34 : decode cX5_isResting 34 = .ok (.invokevirtual 76, 3) := by decide +kernel
theorem dX5_isResting_37 : decode cX5_isResting 37 = .ok (.iload 4, 2) := by decide +kernel
theorem dX5_isResting_39 : decode cX5_isResting 39 = .ok (.aload_n 0, 1) := by decide +kernel
theorem dX5_isResting_40 : decode cX5_isResting 40 = .ok (.getfield 13, 3) := by decide +kernel
theorem dX5_isResting_43 : decode cX5_isResting 43 = .ok (.iload_n 1, 1) := by decide +kernel
theorem dX5_isResting_44 : decode cX5_isResting 44 = .ok (.iconst 4, 1) := by decide +kernel
theorem dX5_isResting_45 : decode cX5_isResting 45 = .ok (.invokestatic 58, 3) := by decide +kernel
theorem dX5_isResting_48 : decode cX5_isResting 48 = .ok (.iaload, 1) := by decide +kernel
theorem dX5_isResting_49 : decode cX5_isResting 49 = .ok (.iload_n 3, 1) := by decide +kernel
theorem dX5_isResting_50 : decode cX5_isResting 50 = .ok (.if_icmp .ne 7, 3) := by decide +kernel
theorem dX5_isResting_53 : decode cX5_isResting 53 = .ok (.iconst 1, 1) := by decide +kernel
theorem dX5_isResting_54 : decode cX5_isResting 54 = .ok (.goto 4, 3) := by decide +kernel
theorem dX5_isResting_57 : decode cX5_isResting 57 = .ok (.iconst 0, 1) := by decide +kernel
theorem dX5_isResting_58 : decode cX5_isResting 58 = .ok (.iand, 1) := by decide +kernel
theorem dX5_isResting_59 : decode cX5_isResting 59 = .ok (.istore 4, 2) := by decide +kernel
theorem dX5_isResting_61 : decode cX5_isResting 61 = .ok (.iinc 5 1, 3) := by decide +kernel
theorem dX5_isResting_64 : decode cX5_isResting 64 = .ok (.goto (-42), 3) := by decide +kernel
theorem dX5_isResting_67 : decode cX5_isResting 67 = .ok (.iload 4, 2) := by decide +kernel
theorem dX5_isResting_69 : decode cX5_isResting 69 = .ok (.ireturn, 1) := by decide +kernel
theorem dX5_rests_0 : decode cX5_rests 0 = .ok (.aload_n 0, 1) := by decide +kernel
theorem dX5_rests_1 : decode cX5_rests 1 = .ok (.iload_n 1, 1) := by decide +kernel
theorem dX5_rests_2 : decode cX5_rests 2 = .ok (.invokevirtual 118, 3) := by decide +kernel
theorem dX5_rests_5 : decode cX5_rests 5 = .ok (.ifCond .ne 9, 3) := by decide +kernel
theorem dX5_rests_8 : decode cX5_rests 8 = .ok (.aload_n 0, 1) := by decide +kernel
theorem dX5_rests_9 : decode cX5_rests 9 = .ok (.iconst (-1), 1) := by decide +kernel
theorem dX5_rests_10 : decode cX5_rests 10 = .ok (.invokevirtual 42, 3) := by decide +kernel
theorem dX5_rests_13 : decode cX5_rests 13 = .ok (.ireturn, 1) := by decide +kernel
theorem dX5_rests_14 : decode cX5_rests 14 = .ok (.iconst 0, 1) := by decide +kernel
theorem dX5_rests_15 : decode cX5_rests 15 = .ok (.istore_n 2, 1) := by decide +kernel
theorem dX5_rests_16 : decode cX5_rests 16 = .ok (.iload_n 2, 1) := by decide +kernel
theorem dX5_rests_17 : decode cX5_rests 17 = .ok (.bipush 60, 2) := by decide +kernel
theorem dX5_rests_19 : decode cX5_rests 19 = .ok (.if_icmp .gt 20, 3) := by decide +kernel
theorem dX5_rests_22 : decode cX5_rests 22 = .ok (.aload_n 0, 1) := by decide +kernel
theorem dX5_rests_23 : decode cX5_rests 23 = .ok (.iload_n 1, 1) := by decide +kernel
theorem dX5_rests_24 : decode cX5_rests 24 = .ok (.iload_n 2, 1) := by decide +kernel
theorem dX5_rests_25 : decode cX5_rests 25 = .ok (.invokevirtual 164, 3) := by decide +kernel
theorem dX5_rests_28 : decode cX5_rests 28 = .ok (.ifCond .eq 5, 3) := by decide +kernel
theorem dX5_rests_31 : decode cX5_rests 31 = .ok (.iload_n 2, 1) := by decide +kernel
theorem dX5_rests_32 : decode cX5_rests 32 = .ok (.ireturn, 1) := by decide +kernel
theorem dX5_rests_33 : decode cX5_rests 33 = .ok (.iinc 2 1, 3) := by decide +kernel
theorem dX5_rests_36 : decode cX5_rests 36 = .ok (.goto (-20), 3) := by decide +kernel
theorem dX5_rests_39 : decode cX5_rests 39 = .ok (.bipush (-9), 2) := by decide +kernel
theorem dX5_rests_41 : decode cX5_rests 41 = .ok (.ireturn, 1) := by decide +kernel
theorem dX5_meet_0 : decode cX5_meet 0 = .ok (.aload_n 0, 1) := by decide +kernel
theorem dX5_meet_1 : decode cX5_meet 1 = .ok (.iload_n 1, 1) := by decide +kernel
theorem dX5_meet_2 : decode cX5_meet 2 = .ok (.invokevirtual 118, 3) := by decide +kernel
theorem dX5_meet_5 : decode cX5_meet 5 = .ok (.ifCond .eq 16, 3) := by decide +kernel
theorem dX5_meet_8 : decode cX5_meet 8 = .ok (.aload_n 0, 1) := by decide +kernel
theorem dX5_meet_9 : decode cX5_meet 9 = .ok (.iload_n 2, 1) := by decide +kernel
theorem dX5_meet_10 : decode cX5_meet 10 = .ok (.invokevirtual 118, 3) := by decide +kernel
theorem dX5_meet_13 : decode cX5_meet 13 = .ok (.ifCond .eq 8, 3) := by decide +kernel
theorem dX5_meet_16 : decode cX5_meet 16 = .ok (.iload_n 1, 1) := by decide +kernel
theorem dX5_meet_17 : decode cX5_meet 17 = .ok (.iload_n 2, 1) := by decide +kernel
theorem dX5_meet_18 : decode cX5_meet 18 = .ok (.if_icmp .ne 9, 3) := by decide +kernel
theorem dX5_meet_21 : decode cX5_meet 21 = .ok (.aload_n 0, 1) := by decide +kernel
theorem dX5_meet_22 : decode cX5_meet 22 = .ok (.iconst (-1), 1) := by decide +kernel
theorem dX5_meet_23 : decode cX5_meet 23 = .ok (.invokevirtual 42, 3) := by decide +kernel
theorem dX5_meet_26 : decode cX5_meet 26 = .ok (.ireturn, 1) := by decide +kernel
theorem dX5_meet_27 : decode cX5_meet 27 = .ok (.iload_n 3, 1) := by decide +kernel
theorem dX5_meet_28 : decode cX5_meet 28 = .ok (.iconst 0, 1) := by decide +kernel
theorem dX5_meet_29 : decode cX5_meet 29 = .ok (.iconst 1, 1) := by decide +kernel
theorem dX5_meet_30 : decode cX5_meet 30 = .ok (.invokestatic 46, 3) := by decide +kernel
theorem dX5_meet_33 : decode cX5_meet 33 = .ok (.ifCond .ne 10, 3) := by decide +kernel
theorem dX5_meet_36 : decode cX5_meet 36 = .ok (.aload_n 0, 1) := by decide +kernel
theorem dX5_meet_37 : decode cX5_meet 37 = .ok (.bipush (-2), 2) := by decide +kernel
theorem dX5_meet_39 : decode cX5_meet 39 = .ok (.invokevirtual 42, 3) := by decide +kernel
theorem dX5_meet_42 : decode cX5_meet 42 = .ok (.ireturn, 1) := by decide +kernel
theorem dX5_meet_43 : decode cX5_meet 43 = .ok (.aload_n 0, 1) := by decide +kernel
theorem dX5_meet_44 : decode cX5_meet 44 = .ok (.iconst 0, 1) := by decide +kernel
theorem dX5_meet_45 : decode cX5_meet 45 = .ok (.invokevirtual 148, 3) := by decide +kernel
theorem dX5_meet_48 : decode cX5_meet 48 = .ok (.iconst 0, 1) := by decide +kernel
theorem dX5_meet_49 : decode cX5_meet 49 = .ok (.istore 4, 2) := by decide +kernel
theorem dX5_meet_51 : decode cX5_meet 51 = .ok (.iload 4, 2) := by decide +kernel
theorem dX5_meet_53 : decode cX5_meet 53 = .ok (.bipush 60, 2) := by decide +kernel
theorem dX5_meet_55 : decode cX5_meet 55 = .ok (.if_icmp .gt 61, 3) := by decide +kernel
theorem dX5_meet_58 : decode cX5_meet 58 = .ok (.aload_n 0, 1) := by decide +kernel
theorem dX5_meet_59 : decode cX5_meet 59 = .ok (.getfield 13, 3) := by decide +kernel
theorem dX5_meet_62 : decode cX5_meet 62 = .ok (.iload_n 1, 1) := by decide +kernel
theorem dX5_meet_63 : decode cX5_meet 63 = .ok (.iconst 4, 1) := by decide +kernel
theorem dX5_meet_64 : decode cX5_meet 64 = .ok (.invokestatic 58, 3) := by decide +kernel
theorem dX5_meet_67 : decode cX5_meet 67 = .ok (.iaload, 1) := by decide +kernel
theorem dX5_meet_68 : decode cX5_meet 68 = .ok (.aload_n 0, 1) := by decide +kernel
theorem dX5_meet_69 : decode cX5_meet 69 = .ok (.getfield 13, 3) := by decide +kernel
theorem dX5_meet_72 : decode cX5_meet 72 = .ok (.iload_n 2, 1) := by decide +kernel
theorem dX5_meet_73 : decode cX5_meet 73 = .ok (.iconst 4, 1) := by decide +kernel
theorem dX5_meet_74 : decode cX5_meet 74 = .ok (.invokestatic 58, 3) := by decide +kernel
theorem dX5_meet_77 : decode cX5_meet 77 = .ok (.iaload, 1) := by decide +kernel
theorem dX5_meet_78 : decode cX5_meet 78 = .ok (.if_icmp .ne 23, 3) := by decide +kernel
theorem dX5_meet_81 : decode cX5_meet 81 = .ok (.iload_n 3, 1) := by decide +kernel
theorem dX5_meet_82 : decode cX5_meet 82 = .ok (.ifCond .ne 8, 3) := by decide +kernel
theorem dX5_meet_85 : decode cX5_meet 85 = .ok (.iload 4, 2) := by decide +kernel
theorem dX5_meet_87 : decode cX5_meet 87 = .ok (.goto 13, 3) := by decide +kernel
theorem dX5_meet_90 : decode cX5_meet 90 = .ok (.aload_n 0, 1) := by decide +kernel
theorem dX5_meet_91 : decode cX5_meet 91 = .ok (.getfield 13, 3) := by decide +kernel
theorem dX5_meet_94 : decode cX5_meet 94 = .ok (.iload_n 1, 1) := by decide +kernel
theorem dX5_meet_95 : decode cX5_meet 95 = .ok (.iconst 4, 1) := by decide +kernel
theorem dX5_meet_96 : decode cX5_meet 96 = .ok (.invokestatic 58, 3) := by decide +kernel
theorem dX5_meet_99 : decode cX5_meet 99 = .ok (.iaload, 1) := by decide +kernel
theorem dX5_meet_100 : decode cX5_meet 100 = .ok (.ireturn, 1) := by decide +kernel
theorem dX5_meet_101 : decode cX5_meet 101 = .ok (.aload_n 0, 1) := by decide +kernel
theorem dX5_meet_102 : decode cX5_meet 102 = .ok (.aload_n 0, 1) := by decide +kernel
theorem dX5_meet_103 : decode cX5_meet 103 = .ok (.getfield 13, 3) := by decide +kernel
theorem dX5_meet_106 : decode cX5_meet 106 = .ok (.iconst 0, 1) := by decide +kernel
theorem dX5_meet_107 : decode cX5_meet 107 = .ok (.invokevirtual 76, 3) := by decide +kernel
theorem dX5_meet_110 : decode cX5_meet 110 = .ok (.iinc 4 1, 3) := by decide +kernel
theorem dX5_meet_113 : decode cX5_meet 113 = .ok (.goto (-62), 3) := by decide +kernel
theorem dX5_meet_116 : decode cX5_meet 116 = .ok (.bipush (-9), 2) := by decide +kernel
theorem dX5_meet_118 : decode cX5_meet 118 = .ok (.ireturn, 1) := by decide +kernel
theorem dX5_arrived_0 : decode cX5_arrived 0 = .ok (.aload_n 0, 1) := by decide +kernel
theorem dX5_arrived_1 : decode cX5_arrived 1 = .ok (.iconst 0, 1) := by decide +kernel
theorem dX5_arrived_2 : decode cX5_arrived 2 = .ok (.invokevirtual 148, 3) := by decide +kernel
theorem dX5_arrived_5 : decode cX5_arrived 5 = .ok (.iconst 0, 1) := by decide +kernel
theorem dX5_arrived_6 : decode cX5_arrived 6 = .ok (.istore_n 1, 1) := by decide +kernel
theorem dX5_arrived_7 : decode cX5_arrived 7 = .ok (.iload_n 1, 1) := by decide +kernel
theorem dX5_arrived_8 : decode cX5_arrived 8 = .ok (.bipush 60, 2) := by decide +kernel
theorem dX5_arrived_10 : decode cX5_arrived 10 = .ok (.if_icmp .gt 39, 3) := by decide +kernel
theorem dX5_arrived_13 : decode cX5_arrived 13 = .ok (.aload_n 0, 1) := by decide +kernel
theorem dX5_arrived_14 : decode cX5_arrived 14 = .ok (.getfield 13, 3) := by decide +kernel
theorem dX5_arrived_17 : decode cX5_arrived 17 = .ok (.invokestatic 141, 3) := by decide +kernel
theorem dX5_arrived_20 : decode cX5_arrived 20 = .ok (.invokestatic 145, 3) := by decide +kernel
theorem dX5_arrived_23 : decode cX5_arrived 23 = .ok (.aload_n 0, 1) := by decide +kernel
theorem dX5_arrived_24 : decode cX5_arrived 24 = .ok (.getfield 13, 3) := by decide +kernel
theorem dX5_arrived_27 : decode cX5_arrived 27 = .ok (.iconst 0, 1) := by decide +kernel
theorem dX5_arrived_28 : decode cX5_arrived 28 = .ok (.iaload, 1) := by decide +kernel
theorem dX5_arrived_29 : decode cX5_arrived 29 = .ok (.if_icmp .ne 5, 3) := by decide +kernel
theorem dX5_arrived_32 : decode cX5_arrived 32 = .ok (.iload_n 1, 1) := by decide +kernel
theorem dX5_arrived_33 : decode cX5_arrived 33 = .ok (.ireturn, 1) := by decide +kernel
theorem dX5_arrived_34 : decode cX5_arrived 34 = .ok (.aload_n 0, 1) := by decide +kernel
theorem dX5_arrived_35 : decode cX5_arrived 35 = .ok (.aload_n 0, 1) := by decide +kernel
theorem dX5_arrived_36 : decode cX5_arrived 36 = .ok (.getfield 13, 3) := by decide +kernel
theorem dX5_arrived_39 : decode cX5_arrived 39 = .ok (.iconst 0, 1) := by decide +kernel
theorem dX5_arrived_40 : decode cX5_arrived 40 = .ok (.invokevirtual 76, 3) := by decide +kernel
theorem dX5_arrived_43 : decode cX5_arrived 43 = .ok (.iinc 1 1, 3) := by decide +kernel
theorem dX5_arrived_46 : decode cX5_arrived 46 = .ok (.goto (-39), 3) := by decide +kernel
theorem dX5_arrived_49 : decode cX5_arrived 49 = .ok (.bipush (-9), 2) := by decide +kernel
theorem dX5_arrived_51 : decode cX5_arrived 51 = .ok (.ireturn, 1) := by decide +kernel
theorem dX5_shoe_0 : decode cX5_shoe 0 = .ok (.aload_n 0, 1) := by decide +kernel
theorem dX5_shoe_1 : decode cX5_shoe 1 = .ok (.iload_n 1, 1) := by decide +kernel
theorem dX5_shoe_2 : decode cX5_shoe 2 = .ok (.iload_n 2, 1) := by decide +kernel
theorem dX5_shoe_3 : decode cX5_shoe 3 = .ok (.invokevirtual 155, 3) := by decide +kernel
theorem dX5_shoe_6 : decode cX5_shoe 6 = .ok (.ifCond .eq 9, 3) := by decide +kernel
theorem dX5_shoe_9 : decode cX5_shoe 9 = .ok (.aload_n 0, 1) := by decide +kernel
theorem dX5_shoe_10 : decode cX5_shoe 10 = .ok (.iconst (-1), 1) := by decide +kernel
theorem dX5_shoe_11 : decode cX5_shoe 11 = .ok (.invokevirtual 42, 3) := by decide +kernel
theorem dX5_shoe_14 : decode cX5_shoe 14 = .ok (.ireturn, 1) := by decide +kernel
theorem dX5_shoe_15 : decode cX5_shoe 15 = .ok (.iload_n 3, 1) := by decide +kernel
theorem dX5_shoe_16 : decode cX5_shoe 16 = .ok (.iconst 0, 1) := by decide +kernel
theorem dX5_shoe_17 : decode cX5_shoe 17 = .ok (.iconst 1, 1) := by decide +kernel
theorem dX5_shoe_18 : decode cX5_shoe 18 = .ok (.invokestatic 46, 3) := by decide +kernel
theorem dX5_shoe_21 : decode cX5_shoe 21 = .ok (.ifCond .ne 10, 3) := by decide +kernel
theorem dX5_shoe_24 : decode cX5_shoe 24 = .ok (.aload_n 0, 1) := by decide +kernel
theorem dX5_shoe_25 : decode cX5_shoe 25 = .ok (.bipush (-2), 2) := by decide +kernel
theorem dX5_shoe_27 : decode cX5_shoe 27 = .ok (.invokevirtual 42, 3) := by decide +kernel
theorem dX5_shoe_30 : decode cX5_shoe 30 = .ok (.ireturn, 1) := by decide +kernel
theorem dX5_shoe_31 : decode cX5_shoe 31 = .ok (.bipush (-9), 2) := by decide +kernel
theorem dX5_shoe_33 : decode cX5_shoe 33 = .ok (.istore 4, 2) := by decide +kernel
theorem dX5_shoe_35 : decode cX5_shoe 35 = .ok (.bipush 61, 2) := by decide +kernel
theorem dX5_shoe_37 : decode cX5_shoe 37 = .ok (.istore 5, 2) := by decide +kernel
theorem dX5_shoe_39 : decode cX5_shoe 39 = .ok (.iconst 0, 1) := by decide +kernel
theorem dX5_shoe_40 : decode cX5_shoe 40 = .ok (.istore 6, 2) := by decide +kernel
theorem dX5_shoe_42 : decode cX5_shoe 42 = .ok (.iload 6, 2) := by decide +kernel
theorem dX5_shoe_44 : decode cX5_shoe 44 = .ok (.iconst 5, 1) := by decide +kernel
theorem dX5_shoe_45 : decode cX5_shoe 45 = .ok (.if_icmp .ge 61, 3) := by decide +kernel
theorem dX5_shoe_48 : decode cX5_shoe 48 = .ok (.aload_n 0, 1) := by decide +kernel
theorem dX5_shoe_49 : decode cX5_shoe 49 = .ok (.getfield 9, 3) := by decide +kernel
theorem dX5_shoe_52 : decode cX5_shoe 52 = .ok (.aload_n 0, 1) := by decide +kernel
theorem dX5_shoe_53 : decode cX5_shoe 53 = .ok (.getfield 13, 3) := by decide +kernel
theorem dX5_shoe_56 : decode cX5_shoe 56 = .ok (.invokestatic 127, 3) := by decide +kernel
theorem dX5_shoe_59 : decode cX5_shoe 59 = .ok (.aload_n 0, 1) := by decide +kernel
theorem dX5_shoe_60 : decode cX5_shoe 60 = .ok (.getfield 13, 3) := by decide +kernel
theorem dX5_shoe_63 : decode cX5_shoe 63 = .ok (.iload_n 1, 1) := by decide +kernel
theorem dX5_shoe_64 : decode cX5_shoe 64 = .ok (.iconst 5, 1) := by decide +kernel
theorem dX5_shoe_65 : decode cX5_shoe 65 = .ok (.invokestatic 58, 3) := by decide +kernel
theorem dX5_shoe_68 : decode cX5_shoe 68 = .ok (.iload 6, 2) := by decide +kernel
theorem dX5_shoe_70 : decode cX5_shoe 70 = .ok (.iastore, 1) := by decide +kernel
theorem dX5_shoe_71 : decode cX5_shoe 71 = .ok (.aload_n 0, 1) := by decide +kernel
theorem dX5_shoe_72 : decode cX5_shoe 72 = .ok (.iload_n 1, 1) := by decide +kernel
theorem dX5_shoe_73 : decode cX5_shoe 73 = .ok (.iload_n 2, 1) := by decide +kernel
theorem dX5_shoe_74 : decode cX5_shoe 74 = .ok (.invokevirtual 152, 3) := by decide +kernel
theorem dX5_shoe_77 : decode cX5_shoe 77 = .ok (.invokestatic 161, 3) := by decide +kernel
theorem dX5_shoe_80 : decode cX5_shoe 80 = .ok (.istore 7, 2) := by decide +kernel
theorem dX5_shoe_82 : decode cX5_shoe 82 = .ok (.iload 7, 2) := by decide +kernel
theorem dX5_shoe_84 : decode cX5_shoe 84 = .ok (.iload 5, 2) := by decide +kernel
theorem dX5_shoe_86 : decode cX5_shoe 86 = .ok (.if_icmp .lt 6, 3) := by decide +kernel
theorem dX5_shoe_89 : decode cX5_shoe 89 = .ok (.goto 11, 3) := by decide +kernel
theorem dX5_shoe_92 : decode cX5_shoe 92 = .ok (.iload 6, 2) := by decide +kernel
theorem dX5_shoe_94 : decode cX5_shoe 94 = .ok (.istore 4, 2) := by decide +kernel
theorem dX5_shoe_96 : decode cX5_shoe 96 = .ok (.iload 7, 2) := by decide +kernel
theorem dX5_shoe_98 : decode cX5_shoe 98 = .ok (.istore 5, 2) := by decide +kernel
theorem dX5_shoe_100 : decode cX5_shoe 100 = .ok (.iinc 6 1, 3) := by decide +kernel
theorem dX5_shoe_103 : decode cX5_shoe 103 = .ok (.goto (-61), 3) := by decide +kernel
theorem dX5_shoe_106 : decode cX5_shoe 106 = .ok (.iload 4, 2) := by decide +kernel
theorem dX5_shoe_108 : decode cX5_shoe 108 = .ok (.ifCond .lt 7, 3) := by decide +kernel
theorem dX5_shoe_111 : decode cX5_shoe 111 = .ok (.iload_n 3, 1) := by decide +kernel
theorem dX5_shoe_112 : decode cX5_shoe 112 = .ok (.ifCond .ne 8, 3) := by decide +kernel
theorem dX5_shoe_115 : decode cX5_shoe 115 = .ok (.iload 4, 2) := by decide +kernel
theorem dX5_shoe_117 : decode cX5_shoe 117 = .ok (.goto 5, 3) := by decide +kernel
theorem dX5_shoe_120 : decode cX5_shoe 120 = .ok (.iload 5, 2) := by decide +kernel
theorem dX5_shoe_122 : decode cX5_shoe 122 = .ok (.ireturn, 1) := by decide +kernel
theorem dX5_wish_0 : decode cX5_wish 0 = .ok (.aload_n 0, 1) := by decide +kernel
theorem dX5_wish_1 : decode cX5_wish 1 = .ok (.iload_n 1, 1) := by decide +kernel
theorem dX5_wish_2 : decode cX5_wish 2 = .ok (.iload_n 2, 1) := by decide +kernel
theorem dX5_wish_3 : decode cX5_wish 3 = .ok (.invokevirtual 155, 3) := by decide +kernel
theorem dX5_wish_6 : decode cX5_wish 6 = .ok (.ifCond .eq 9, 3) := by decide +kernel
theorem dX5_wish_9 : decode cX5_wish 9 = .ok (.aload_n 0, 1) := by decide +kernel
theorem dX5_wish_10 : decode cX5_wish 10 = .ok (.iconst (-1), 1) := by decide +kernel
theorem dX5_wish_11 : decode cX5_wish 11 = .ok (.invokevirtual 42, 3) := by decide +kernel
theorem dX5_wish_14 : decode cX5_wish 14 = .ok (.ireturn, 1) := by decide +kernel
theorem dX5_wish_15 : decode cX5_wish 15 = .ok (.aload_n 0, 1) := by decide +kernel
theorem dX5_wish_16 : decode cX5_wish 16 = .ok (.iload_n 1, 1) := by decide +kernel
theorem dX5_wish_17 : decode cX5_wish 17 = .ok (.iload_n 2, 1) := by decide +kernel
theorem dX5_wish_18 : decode cX5_wish 18 = .ok (.invokevirtual 158, 3) := by decide +kernel
theorem dX5_wish_21 : decode cX5_wish 21 = .ok (.invokestatic 161, 3) := by decide +kernel
theorem dX5_wish_24 : decode cX5_wish 24 = .ok (.istore_n 3, 1) := by decide +kernel
theorem dX5_wish_25 : decode cX5_wish 25 = .ok (.bipush (-9), 2) := by decide +kernel
theorem dX5_wish_27 : decode cX5_wish 27 = .ok (.istore 4, 2) := by decide +kernel
theorem dX5_wish_29 : decode cX5_wish 29 = .ok (.iconst 0, 1) := by decide +kernel
theorem dX5_wish_30 : decode cX5_wish 30 = .ok (.istore 5, 2) := by decide +kernel
theorem dX5_wish_32 : decode cX5_wish 32 = .ok (.iload 5, 2) := by decide +kernel
theorem dX5_wish_34 : decode cX5_wish 34 = .ok (.bipush 8, 2) := by decide +kernel
theorem dX5_wish_36 : decode cX5_wish 36 = .ok (.if_icmp .ge 59, 3) := by decide +kernel
theorem dX5_wish_39 : decode cX5_wish 39 = .ok (.aload_n 0, 1) := by decide +kernel
theorem dX5_wish_40 : decode cX5_wish 40 = .ok (.getfield 9, 3) := by decide +kernel
theorem dX5_wish_43 : decode cX5_wish 43 = .ok (.aload_n 0, 1) := by decide +kernel
theorem dX5_wish_44 : decode cX5_wish 44 = .ok (.getfield 13, 3) := by decide +kernel
theorem dX5_wish_47 : decode cX5_wish 47 = .ok (.invokestatic 127, 3) := by decide +kernel
theorem dX5_wish_50 : decode cX5_wish 50 = .ok (.aload_n 0, 1) := by decide +kernel
theorem dX5_wish_51 : decode cX5_wish 51 = .ok (.getfield 13, 3) := by decide +kernel
theorem dX5_wish_54 : decode cX5_wish 54 = .ok (.iload_n 1, 1) := by decide +kernel
theorem dX5_wish_55 : decode cX5_wish 55 = .ok (.iconst 2, 1) := by decide +kernel
theorem dX5_wish_56 : decode cX5_wish 56 = .ok (.invokestatic 58, 3) := by decide +kernel
theorem dX5_wish_59 : decode cX5_wish 59 = .ok (.iload 5, 2) := by decide +kernel
theorem dX5_wish_61 : decode cX5_wish 61 = .ok (.iastore, 1) := by decide +kernel
theorem dX5_wish_62 : decode cX5_wish 62 = .ok (.aload_n 0, 1) := by decide +kernel
theorem dX5_wish_63 : decode cX5_wish 63 = .ok (.iload_n 1, 1) := by decide +kernel
theorem dX5_wish_64 : decode cX5_wish 64 = .ok (.iload_n 2, 1) := by decide +kernel
theorem dX5_wish_65 : decode cX5_wish 65 = .ok (.invokevirtual 152, 3) := by decide +kernel
theorem dX5_wish_68 : decode cX5_wish 68 = .ok (.invokestatic 161, 3) := by decide +kernel
theorem dX5_wish_71 : decode cX5_wish 71 = .ok (.istore 6, 2) := by decide +kernel
theorem dX5_wish_73 : decode cX5_wish 73 = .ok (.iload 6, 2) := by decide +kernel
theorem dX5_wish_75 : decode cX5_wish 75 = .ok (.iload_n 3, 1) := by decide +kernel
theorem dX5_wish_76 : decode cX5_wish 76 = .ok (.if_icmp .lt 6, 3) := by decide +kernel
theorem dX5_wish_79 : decode cX5_wish 79 = .ok (.goto 10, 3) := by decide +kernel
theorem dX5_wish_82 : decode cX5_wish 82 = .ok (.iload 5, 2) := by decide +kernel
theorem dX5_wish_84 : decode cX5_wish 84 = .ok (.istore 4, 2) := by decide +kernel
theorem dX5_wish_86 : decode cX5_wish 86 = .ok (.iload 6, 2) := by decide +kernel
theorem dX5_wish_88 : decode cX5_wish 88 = .ok (.istore_n 3, 1) := by decide +kernel
theorem dX5_wish_89 : decode cX5_wish 89 = .ok (.iinc 5 1, 3) := by decide +kernel
theorem dX5_wish_92 : decode cX5_wish 92 = .ok (.goto (-60), 3) := by decide +kernel
theorem dX5_wish_95 : decode cX5_wish 95 = .ok (.iload 4, 2) := by decide +kernel
theorem dX5_wish_97 : decode cX5_wish 97 = .ok (.ireturn, 1) := by decide +kernel
theorem dX5_comesTurned_0 : decode cX5_comesTurned 0 = .ok (.aload_n 0, 1) := by decide +kernel
theorem dX5_comesTurned_1 : decode cX5_comesTurned 1 = .ok (.getfield 9, 3) := by decide +kernel
theorem dX5_comesTurned_4 : decode cX5_comesTurned 4 = .ok (.aload_n 0, 1) := by decide +kernel
theorem dX5_comesTurned_5 : decode cX5_comesTurned 5 = .ok (.getfield 13, 3) := by decide +kernel
theorem dX5_comesTurned_8 : decode cX5_comesTurned 8 = .ok (.invokestatic 127, 3) := by decide +kernel
theorem dX5_comesTurned_11 : decode cX5_comesTurned 11 = .ok (.aload_n 0, 1) := by decide +kernel
theorem dX5_comesTurned_12 : decode cX5_comesTurned 12 = .ok (.getfield 13, 3) := by decide +kernel
theorem dX5_comesTurned_15 : decode cX5_comesTurned 15 = .ok (.iload_n 3, 1) := by decide +kernel
theorem dX5_comesTurned_16 : decode cX5_comesTurned 16 = .ok (.iload 4, 2) := by decide +kernel
theorem dX5_comesTurned_18 : decode cX5_comesTurned 18 = .ok (.invokestatic 111, 3) := by decide +kernel
theorem dX5_comesTurned_21 : decode cX5_comesTurned 21 = .ok (.aload_n 0, 1) := by decide +kernel
theorem dX5_comesTurned_22 : decode cX5_comesTurned 22 = .ok (.iload_n 1, 1) := by decide +kernel
theorem dX5_comesTurned_23 : decode cX5_comesTurned 23 = .ok (.iload_n 2, 1) := by decide +kernel
theorem dX5_comesTurned_24 : decode cX5_comesTurned 24 = .ok (.invokevirtual 152, 3) := by decide +kernel
theorem dX5_comesTurned_27 : decode cX5_comesTurned 27 = .ok (.invokestatic 161, 3) := by decide +kernel
theorem dX5_comesTurned_30 : decode cX5_comesTurned 30 = .ok (.ireturn, 1) := by decide +kernel
theorem dX5_road_0 : decode cX5_road 0 = .ok (.aload_n 0, 1) := by decide +kernel
theorem dX5_road_1 : decode cX5_road 1 = .ok (.iload_n 1, 1) := by decide +kernel
theorem dX5_road_2 : decode cX5_road 2 = .ok (.iload_n 2, 1) := by decide +kernel
theorem dX5_road_3 : decode cX5_road 3 = .ok (.invokevirtual 155, 3) := by decide +kernel
theorem dX5_road_6 : decode cX5_road 6 = .ok (.ifCond .eq 9, 3) := by decide +kernel
theorem dX5_road_9 : decode cX5_road 9 = .ok (.aload_n 0, 1) := by decide +kernel
theorem dX5_road_10 : decode cX5_road 10 = .ok (.iconst (-1), 1) := by decide +kernel
theorem dX5_road_11 : decode cX5_road 11 = .ok (.invokevirtual 42, 3) := by decide +kernel
theorem dX5_road_14 : decode cX5_road 14 = .ok (.ireturn, 1) := by decide +kernel
theorem dX5_road_15 : decode cX5_road 15 = .ok (.aload_n 0, 1) := by decide +kernel
theorem dX5_road_16 : decode cX5_road 16 = .ok (.iload_n 1, 1) := by decide +kernel
theorem dX5_road_17 : decode cX5_road 17 = .ok (.iload_n 2, 1) := by decide +kernel
theorem dX5_road_18 : decode cX5_road 18 = .ok (.invokevirtual 158, 3) := by decide +kernel
theorem dX5_road_21 : decode cX5_road 21 = .ok (.invokestatic 161, 3) := by decide +kernel
theorem dX5_road_24 : decode cX5_road 24 = .ok (.istore_n 3, 1) := by decide +kernel
theorem dX5_road_25 : decode cX5_road 25 = .ok (.bipush (-9), 2) := by decide +kernel
theorem dX5_road_27 : decode cX5_road 27 = .ok (.istore 4, 2) := by decide +kernel
theorem dX5_road_29 : decode cX5_road 29 = .ok (.iconst 0, 1) := by decide +kernel
theorem dX5_road_30 : decode cX5_road 30 = .ok (.istore 5, 2) := by decide +kernel
theorem dX5_road_32 : decode cX5_road 32 = .ok (.iload 5, 2) := by decide +kernel
theorem dX5_road_34 : decode cX5_road 34 = .ok (.bipush 8, 2) := by decide +kernel
theorem dX5_road_36 : decode cX5_road 36 = .ok (.if_icmp .ge 83, 3) := by decide +kernel
theorem dX5_road_39 : decode cX5_road 39 = .ok (.iload 5, 2) := by decide +kernel
theorem dX5_road_41 : decode cX5_road 41 = .ok (.iconst 1, 1) := by decide +kernel
theorem dX5_road_42 : decode cX5_road 42 = .ok (.iadd, 1) := by decide +kernel
theorem dX5_road_43 : decode cX5_road 43 = .ok (.istore 6, 2) := by decide +kernel
theorem dX5_road_45 : decode cX5_road 45 = .ok (.iload 6, 2) := by decide +kernel
theorem dX5_road_47 : decode cX5_road 47 = .ok (.bipush 8, 2) := by decide +kernel
theorem dX5_road_49 : decode cX5_road 49 = .ok (.if_icmp .ge 64, 3) := by decide +kernel
theorem dX5_road_52 : decode cX5_road 52 = .ok (.aload_n 0, 1) := by decide +kernel
theorem dX5_road_53 : decode cX5_road 53 = .ok (.getfield 9, 3) := by decide +kernel
theorem dX5_road_56 : decode cX5_road 56 = .ok (.iconst 2, 1) := by decide +kernel
theorem dX5_road_57 : decode cX5_road 57 = .ok (.iload 5, 2) := by decide +kernel
theorem dX5_road_59 : decode cX5_road 59 = .ok (.iadd, 1) := by decide +kernel
theorem dX5_road_60 : decode cX5_road 60 = .ok (.iaload, 1) := by decide +kernel
theorem dX5_road_61 : decode cX5_road 61 = .ok (.iload 6, 2) := by decide +kernel
theorem dX5_road_63 : decode cX5_road 63 = .ok (.invokestatic 50, 3) := by decide +kernel
theorem dX5_road_66 : decode cX5_road 66 = .ok (.ifCond .eq 7, 3) := by decide +kernel
theorem dX5_road_69 : decode cX5_road 69 = .ok (.iload_n 3, 1) := by decide +kernel
theorem dX5_road_70 : decode cX5_road 70 = .ok (.goto 13, 3) := by decide +kernel
theorem dX5_road_73 : decode cX5_road 73 = .ok (.aload_n 0, 1) := by decide +kernel
theorem dX5_road_74 : decode cX5_road 74 = .ok (.iload_n 1, 1) := by decide +kernel
theorem dX5_road_75 : decode cX5_road 75 = .ok (.iload_n 2, 1) := by decide +kernel
theorem dX5_road_76 : decode cX5_road 76 = .ok (.iload 5, 2) := by decide +kernel
theorem dX5_road_78 : decode cX5_road 78 = .ok (.iload 6, 2) := by decide +kernel
theorem dX5_road_80 : decode cX5_road 80 = .ok (.invokevirtual 167, 3) := by decide +kernel
theorem dX5_road_83 : decode cX5_road 83 = .ok (.istore 7, 2) := by decide +kernel
theorem dX5_road_85 : decode cX5_road 85 = .ok (.iload 7, 2) := by decide +kernel
theorem dX5_road_87 : decode cX5_road 87 = .ok (.iload_n 3, 1) := by decide +kernel
theorem dX5_road_88 : decode cX5_road 88 = .ok (.if_icmp .lt 6, 3) := by decide +kernel
theorem dX5_road_91 : decode cX5_road 91 = .ok (.goto 16, 3) := by decide +kernel
theorem dX5_road_94 : decode cX5_road 94 = .ok (.bipush 10, 2) := by decide +kernel
theorem dX5_road_96 : decode cX5_road 96 = .ok (.iload 5, 2) := by decide +kernel
theorem dX5_road_98 : decode cX5_road 98 = .ok (.imul, 1) := by decide +kernel
theorem dX5_road_99 : decode cX5_road 99 = .ok (.iload 6, 2) := by decide +kernel
theorem dX5_road_101 : decode cX5_road 101 = .ok (.iadd, 1) := by decide +kernel
theorem dX5_road_102 : decode cX5_road 102 = .ok (.istore 4, 2) := by decide +kernel
theorem dX5_road_104 : decode cX5_road 104 = .ok (.iload 7, 2) := by decide +kernel
theorem dX5_road_106 : decode cX5_road 106 = .ok (.istore_n 3, 1) := by decide +kernel
theorem dX5_road_107 : decode cX5_road 107 = .ok (.iinc 6 1, 3) := by decide +kernel
theorem dX5_road_110 : decode cX5_road 110 = .ok (.goto (-65), 3) := by decide +kernel
theorem dX5_road_113 : decode cX5_road 113 = .ok (.iinc 5 1, 3) := by decide +kernel
theorem dX5_road_116 : decode cX5_road 116 = .ok (.goto (-84), 3) := by decide +kernel
theorem dX5_road_119 : decode cX5_road 119 = .ok (.iload 4, 2) := by decide +kernel
theorem dX5_road_121 : decode cX5_road 121 = .ok (.ireturn, 1) := by decide +kernel
theorem dX5_cut_0 : decode cX5_cut 0 = .ok (.aload_n 0, 1) := by decide +kernel
theorem dX5_cut_1 : decode cX5_cut 1 = .ok (.iload_n 1, 1) := by decide +kernel
theorem dX5_cut_2 : decode cX5_cut 2 = .ok (.iload_n 2, 1) := by decide +kernel
theorem dX5_cut_3 : decode cX5_cut 3 = .ok (.invokevirtual 155, 3) := by decide +kernel
theorem dX5_cut_6 : decode cX5_cut 6 = .ok (.ifCond .eq 9, 3) := by decide +kernel
theorem dX5_cut_9 : decode cX5_cut 9 = .ok (.aload_n 0, 1) := by decide +kernel
theorem dX5_cut_10 : decode cX5_cut 10 = .ok (.iconst (-1), 1) := by decide +kernel
theorem dX5_cut_11 : decode cX5_cut 11 = .ok (.invokevirtual 42, 3) := by decide +kernel
theorem dX5_cut_14 : decode cX5_cut 14 = .ok (.ireturn, 1) := by decide +kernel
theorem dX5_cut_15 : decode cX5_cut 15 = .ok (.aload_n 0, 1) := by decide +kernel
theorem dX5_cut_16 : decode cX5_cut 16 = .ok (.iload_n 1, 1) := by decide +kernel
theorem dX5_cut_17 : decode cX5_cut 17 = .ok (.iload_n 2, 1) := by decide +kernel
theorem dX5_cut_18 : decode cX5_cut 18 = .ok (.invokevirtual 158, 3) := by decide +kernel
theorem dX5_cut_21 : decode cX5_cut 21 = .ok (.ifCond .ge 6, 3) := by decide +kernel
theorem dX5_cut_24 : decode cX5_cut 24 = .ok (.bipush (-9), 2) := by decide +kernel
theorem dX5_cut_26 : decode cX5_cut 26 = .ok (.ireturn, 1) := by decide +kernel
theorem dX5_cut_27 : decode cX5_cut 27 = .ok (.iconst 0, 1) := by decide +kernel
theorem dX5_cut_28 : decode cX5_cut 28 = .ok (.istore_n 3, 1) := by decide +kernel
theorem dX5_cut_29 : decode cX5_cut 29 = .ok (.iload_n 3, 1) := by decide +kernel
theorem dX5_cut_30 : decode cX5_cut 30 = .ok (.bipush 8, 2) := by decide +kernel
theorem dX5_cut_32 : decode cX5_cut 32 = .ok (.if_icmp .ge 65, 3) := by decide +kernel
theorem dX5_cut_35 : decode cX5_cut 35 = .ok (.iload_n 3, 1) := by decide +kernel
theorem dX5_cut_36 : decode cX5_cut 36 = .ok (.iconst 1, 1) := by decide +kernel
theorem dX5_cut_37 : decode cX5_cut 37 = .ok (.iadd, 1) := by decide +kernel
theorem dX5_cut_38 : decode cX5_cut 38 = .ok (.istore 4, 2) := by decide +kernel
theorem dX5_cut_40 : decode cX5_cut 40 = .ok (.iload 4, 2) := by decide +kernel
theorem dX5_cut_42 : decode cX5_cut 42 = .ok (.bipush 8, 2) := by decide +kernel
theorem dX5_cut_44 : decode cX5_cut 44 = .ok (.if_icmp .ge 47, 3) := by decide +kernel
theorem dX5_cut_47 : decode cX5_cut 47 = .ok (.aload_n 0, 1) := by decide +kernel
theorem dX5_cut_48 : decode cX5_cut 48 = .ok (.getfield 9, 3) := by decide +kernel
theorem dX5_cut_51 : decode cX5_cut 51 = .ok (.iconst 2, 1) := by decide +kernel
theorem dX5_cut_52 : decode cX5_cut 52 = .ok (.iload_n 3, 1) := by decide +kernel
theorem dX5_cut_53 : decode cX5_cut 53 = .ok (.iadd, 1) := by decide +kernel
theorem dX5_cut_54 : decode cX5_cut 54 = .ok (.iaload, 1) := by decide +kernel
theorem dX5_cut_55 : decode cX5_cut 55 = .ok (.iload 4, 2) := by decide +kernel
theorem dX5_cut_57 : decode cX5_cut 57 = .ok (.invokestatic 50, 3) := by decide +kernel
theorem dX5_cut_60 : decode cX5_cut 60 = .ok (.ifCond .eq 25, 3) := by decide +kernel
theorem dX5_cut_63 : decode cX5_cut 63 = .ok (.aload_n 0, 1) := by decide +kernel
theorem dX5_cut_64 : decode cX5_cut 64 = .ok (.iload_n 1, 1) := by decide +kernel
theorem dX5_cut_65 : decode cX5_cut 65 = .ok (.iload_n 2, 1) := by decide +kernel
theorem dX5_cut_66 : decode cX5_cut 66 = .ok (.iload_n 3, 1) := by decide +kernel
theorem dX5_cut_67 : decode cX5_cut 67 = .ok (.iload 4, 2) := by decide +kernel
theorem dX5_cut_69 : decode cX5_cut 69 = .ok (.invokevirtual 167, 3) := by decide +kernel
theorem dX5_cut_72 : decode cX5_cut 72 = .ok (.bipush 60, 2) := by decide +kernel
theorem dX5_cut_74 : decode cX5_cut 74 = .ok (.if_icmp .le 11, 3) := by decide +kernel
theorem dX5_cut_77 : decode cX5_cut 77 = .ok (.bipush 10, 2) := by decide +kernel
theorem dX5_cut_79 : decode cX5_cut 79 = .ok (.iload_n 3, 1) := by decide +kernel
theorem dX5_cut_80 : decode cX5_cut 80 = .ok (.imul, 1) := by decide +kernel
theorem dX5_cut_81 : decode cX5_cut 81 = .ok (.iload 4, 2) := by decide +kernel
theorem dX5_cut_83 : decode cX5_cut 83 = .ok (.iadd, 1) := by decide +kernel
theorem dX5_cut_84 : decode cX5_cut 84 = .ok (.ireturn, 1) := by decide +kernel
theorem dX5_cut_85 : decode cX5_cut 85 = .ok (.iinc 4 1, 3) := by decide +kernel
theorem dX5_cut_88 : decode cX5_cut 88 = .ok (.goto (-48), 3) := by decide +kernel
theorem dX5_cut_91 : decode cX5_cut 91 = .ok (.iinc 3 1, 3) := by decide +kernel
theorem dX5_cut_94 : decode cX5_cut 94 = .ok (.goto (-65), 3) := by decide +kernel
theorem dX5_cut_97 : decode cX5_cut 97 = .ok (.bipush (-9), 2) := by decide +kernel
theorem dX5_cut_99 : decode cX5_cut 99 = .ok (.ireturn, 1) := by decide +kernel
theorem dX5_inn_0 : decode cX5_inn 0 = .ok (.iload_n 1, 1) := by decide +kernel
theorem dX5_inn_1 : decode cX5_inn 1 = .ok (.iconst 0, 1) := by decide +kernel
theorem dX5_inn_2 : decode cX5_inn 2 = .ok (.bipush 30, 2) := by decide +kernel
theorem dX5_inn_4 : decode cX5_inn 4 = .ok (.invokestatic 138, 3) := by decide +kernel
theorem dX5_inn_7 : decode cX5_inn 7 = .ok (.istore_n 3, 1) := by decide +kernel
theorem dX5_inn_8 : decode cX5_inn 8 = .ok (.iload_n 3, 1) := by decide +kernel
theorem dX5_inn_9 : decode cX5_inn 9 = .ok (.ifCond .ne 15, 3) := by decide +kernel
theorem dX5_inn_12 : decode cX5_inn 12 = .ok (.iload_n 2, 1) := by decide +kernel
theorem dX5_inn_13 : decode cX5_inn 13 = .ok (.iconst 0, 1) := by decide +kernel
theorem dX5_inn_14 : decode cX5_inn 14 = .ok (.iconst 1, 1) := by decide +kernel
theorem dX5_inn_15 : decode cX5_inn 15 = .ok (.invokestatic 46, 3) := by decide +kernel
theorem dX5_inn_18 : decode cX5_inn 18 = .ok (.ifCond .ne 6, 3) := by decide +kernel
theorem dX5_inn_21 : decode cX5_inn 21 = .ok (.bipush (-2), 2) := by decide +kernel
theorem dX5_inn_23 : decode cX5_inn 23 = .ok (.istore_n 3, 1) := by decide +kernel
theorem dX5_inn_24 : decode cX5_inn 24 = .ok (.iload_n 3, 1) := by decide +kernel
theorem dX5_inn_25 : decode cX5_inn 25 = .ok (.ifCond .eq 9, 3) := by decide +kernel
theorem dX5_inn_28 : decode cX5_inn 28 = .ok (.aload_n 0, 1) := by decide +kernel
theorem dX5_inn_29 : decode cX5_inn 29 = .ok (.iload_n 3, 1) := by decide +kernel
theorem dX5_inn_30 : decode cX5_inn 30 = .ok (.invokevirtual 42, 3) := by decide +kernel
theorem dX5_inn_33 : decode cX5_inn 33 = .ok (.ireturn, 1) := by decide +kernel
theorem dX5_inn_34 : decode cX5_inn 34 = .ok (.iconst 0, 1) := by decide +kernel
theorem dX5_inn_35 : decode cX5_inn 35 = .ok (.istore 4, 2) := by decide +kernel
theorem dX5_inn_37 : decode cX5_inn 37 = .ok (.iload 4, 2) := by decide +kernel
theorem dX5_inn_39 : decode cX5_inn 39 = .ok (.bipush 8, 2) := by decide +kernel
theorem dX5_inn_41 : decode cX5_inn 41 = .ok (.if_icmp .ge 17, 3) := by decide +kernel
theorem dX5_inn_44 : decode cX5_inn 44 = .ok (.aload_n 0, 1) := by decide +kernel
theorem dX5_inn_45 : decode cX5_inn 45 = .ok (.getfield 37, 3) := by decide +kernel
theorem dX5_inn_48 : decode cX5_inn 48 = .ok (.iload 4, 2) := by decide +kernel
theorem dX5_inn_50 : decode cX5_inn 50 = .ok (.iconst 0, 1) := by decide +kernel
theorem dX5_inn_51 : decode cX5_inn 51 = .ok (.iastore, 1) := by decide +kernel
theorem dX5_inn_52 : decode cX5_inn 52 = .ok (.iinc 4 1, 3) := by decide +kernel
theorem dX5_inn_55 : decode cX5_inn 55 = .ok (.goto (-18), 3) := by decide +kernel
theorem dX5_inn_58 : decode cX5_inn 58 = .ok (.aload_n 0, 1) := by decide +kernel
theorem dX5_inn_59 : decode cX5_inn 59 = .ok (.iconst 0, 1) := by decide +kernel
theorem dX5_inn_60 : decode cX5_inn 60 = .ok (.invokevirtual 148, 3) := by decide +kernel
theorem dX5_inn_63 : decode cX5_inn 63 = .ok (.iconst 0, 1) := by decide +kernel
theorem dX5_inn_64 : decode cX5_inn 64 = .ok (.istore 4, 2) := by decide +kernel
theorem dX5_inn_66 : decode cX5_inn 66 = .ok (.iload 4, 2) := by decide +kernel
theorem dX5_inn_68 : decode cX5_inn 68 = .ok (.iload_n 1, 1) := by decide +kernel
theorem dX5_inn_69 : decode cX5_inn 69 = .ok (.if_icmp .gt 61, 3) := by decide +kernel
theorem dX5_inn_72 : decode cX5_inn 72 = .ok (.iconst 0, 1) := by decide +kernel
theorem dX5_inn_73 : decode cX5_inn 73 = .ok (.istore 5, 2) := by decide +kernel
theorem dX5_inn_75 : decode cX5_inn 75 = .ok (.iload 5, 2) := by decide +kernel
theorem dX5_inn_77 : decode cX5_inn 77 = .ok (.aload_n 0, 1) := by decide +kernel
theorem dX5_inn_78 : decode cX5_inn 78 = .ok (.getfield 13, 3) := by decide +kernel
theorem dX5_inn_81 : decode cX5_inn 81 = .ok (.iconst 0, 1) := by decide +kernel
theorem dX5_inn_82 : decode cX5_inn 82 = .ok (.iaload, 1) := by decide +kernel
theorem dX5_inn_83 : decode cX5_inn 83 = .ok (.if_icmp .ge 32, 3) := by decide +kernel
theorem dX5_inn_86 : decode cX5_inn 86 = .ok (.aload_n 0, 1) := by decide +kernel
theorem dX5_inn_87 : decode cX5_inn 87 = .ok (.getfield 37, 3) := by decide +kernel
theorem dX5_inn_90 : decode cX5_inn 90 = .ok (.aload_n 0, 1) := by decide +kernel
theorem dX5_inn_91 : decode cX5_inn 91 = .ok (.getfield 13, 3) := by decide +kernel
theorem dX5_inn_94 : decode cX5_inn 94 = .ok (.iload 5, 2) := by decide +kernel
theorem dX5_inn_96 : decode cX5_inn 96 = .ok (.iconst 4, 1) := by decide +kernel
theorem dX5_inn_97 : decode cX5_inn 97 = .ok (.invokestatic 58, 3) := by decide +kernel
theorem dX5_inn_100 : decode cX5_inn 100 = .ok (.iaload, 1) := by decide +kernel
theorem dX5_inn_101 : decode cX5_inn 101 = .ok (.dup2, 1) := by decide +kernel
theorem dX5_inn_102 : decode cX5_inn 102 = .ok (.iaload, 1) := by decide +kernel
theorem dX5_inn_103 : decode cX5_inn 103 = .ok (.iconst 1, 1) := by decide +kernel
theorem dX5_inn_104 : decode cX5_inn 104 = .ok (.iload 5, 2) := by decide +kernel
theorem dX5_inn_106 : decode cX5_inn 106 = .ok (.ishl, 1) := by decide +kernel
theorem dX5_inn_107 : decode cX5_inn 107 = .ok (.ior, 1) := by decide +kernel
theorem dX5_inn_108 : decode cX5_inn 108 = .ok (.iastore, 1) := by decide +kernel
theorem dX5_inn_109 : decode cX5_inn 109 = .ok (.iinc 5 1, 3) := by decide +kernel
theorem dX5_inn_112 : decode cX5_inn 112 = .ok (.goto (-37), 3) := by decide +kernel
theorem dX5_inn_115 : decode cX5_inn 115 = .ok (.aload_n 0, 1) := by decide +kernel
theorem dX5_inn_116 : decode cX5_inn 116 = .ok (.aload_n 0, 1) := by decide +kernel
theorem dX5_inn_117 : decode cX5_inn 117 = .ok (.getfield 13, 3) := by decide +kernel
theorem dX5_inn_120 : decode cX5_inn 120 = .ok (.iconst 0, 1) := by decide +kernel
theorem dX5_inn_121 : decode cX5_inn 121 = .ok (.invokevirtual 76, 3) := by decide +kernel
theorem dX5_inn_124 : decode cX5_inn 124 = .ok (.iinc 4 1, 3) := by decide +kernel
theorem dX5_inn_127 : decode cX5_inn 127 = .ok (.goto (-61), 3) := by decide +kernel
theorem dX5_inn_130 : decode cX5_inn 130 = .ok (.iconst 0, 1) := by decide +kernel
theorem dX5_inn_131 : decode cX5_inn 131 = .ok (.istore 4, 2) := by decide +kernel
theorem dX5_inn_133 : decode cX5_inn 133 = .ok (.iconst 0, 1) := by decide +kernel
theorem dX5_inn_134 : decode cX5_inn 134 = .ok (.istore 5, 2) := by decide +kernel
theorem dX5_inn_136 : decode cX5_inn 136 = .ok (.iload 5, 2) := by decide +kernel
theorem dX5_inn_138 : decode cX5_inn 138 = .ok (.bipush 8, 2) := by decide +kernel
theorem dX5_inn_140 : decode cX5_inn 140 = .ok (.if_icmp .ge 36, 3) := by decide +kernel
theorem dX5_inn_143 : decode cX5_inn 143 = .ok (.aload_n 0, 1) := by decide +kernel
theorem dX5_inn_144 : decode cX5_inn 144 = .ok (.getfield 37, 3) := by decide +kernel
theorem dX5_inn_147 : decode cX5_inn 147 = .ok (.iload 5, 2) := by decide +kernel
theorem dX5_inn_149 : decode cX5_inn 149 = .ok (.iaload, 1) := by decide +kernel
theorem dX5_inn_150 : decode cX5_inn 150 = .ok (.invokestatic 145, 3) := by decide +kernel
theorem dX5_inn_153 : decode cX5_inn 153 = .ok (.aload_n 0, 1) := by decide +kernel
theorem dX5_inn_154 : decode cX5_inn 154 = .ok (.getfield 37, 3) := by decide +kernel
theorem dX5_inn_157 : decode cX5_inn 157 = .ok (.iload 4, 2) := by decide +kernel
theorem dX5_inn_159 : decode cX5_inn 159 = .ok (.iaload, 1) := by decide +kernel
theorem dX5_inn_160 : decode cX5_inn 160 = .ok (.invokestatic 145, 3) := by decide +kernel
theorem dX5_inn_163 : decode cX5_inn 163 = .ok (.if_icmp .le 7, 3) := by decide +kernel
theorem dX5_inn_166 : decode cX5_inn 166 = .ok (.iload 5, 2) := by decide +kernel
theorem dX5_inn_168 : decode cX5_inn 168 = .ok (.istore 4, 2) := by decide +kernel
theorem dX5_inn_170 : decode cX5_inn 170 = .ok (.iinc 5 1, 3) := by decide +kernel
theorem dX5_inn_173 : decode cX5_inn 173 = .ok (.goto (-37), 3) := by decide +kernel
theorem dX5_inn_176 : decode cX5_inn 176 = .ok (.iload_n 2, 1) := by decide +kernel
theorem dX5_inn_177 : decode cX5_inn 177 = .ok (.ifCond .ne 8, 3) := by decide +kernel
theorem dX5_inn_180 : decode cX5_inn 180 = .ok (.iload 4, 2) := by decide +kernel
theorem dX5_inn_182 : decode cX5_inn 182 = .ok (.goto 13, 3) := by decide +kernel
theorem dX5_inn_185 : decode cX5_inn 185 = .ok (.aload_n 0, 1) := by decide +kernel
theorem dX5_inn_186 : decode cX5_inn 186 = .ok (.getfield 37, 3) := by decide +kernel
theorem dX5_inn_189 : decode cX5_inn 189 = .ok (.iload 4, 2) := by decide +kernel
theorem dX5_inn_191 : decode cX5_inn 191 = .ok (.iaload, 1) := by decide +kernel
theorem dX5_inn_192 : decode cX5_inn 192 = .ok (.invokestatic 145, 3) := by decide +kernel
theorem dX5_inn_195 : decode cX5_inn 195 = .ok (.ireturn, 1) := by decide +kernel
theorem dX5_busiest_0 : decode cX5_busiest 0 = .ok (.iconst 0, 1) := by decide +kernel
theorem dX5_busiest_1 : decode cX5_busiest 1 = .ok (.istore_n 1, 1) := by decide +kernel
theorem dX5_busiest_2 : decode cX5_busiest 2 = .ok (.iconst 0, 1) := by decide +kernel
theorem dX5_busiest_3 : decode cX5_busiest 3 = .ok (.istore_n 2, 1) := by decide +kernel
theorem dX5_busiest_4 : decode cX5_busiest 4 = .ok (.iload_n 2, 1) := by decide +kernel
theorem dX5_busiest_5 : decode cX5_busiest 5 = .ok (.bipush 8, 2) := by decide +kernel
theorem dX5_busiest_7 : decode cX5_busiest 7 = .ok (.if_icmp .ge 36, 3) := by decide +kernel
theorem dX5_busiest_10 : decode cX5_busiest 10 = .ok (.aload_n 0, 1) := by decide +kernel
theorem dX5_busiest_11 : decode cX5_busiest 11 = .ok (.getfield 9, 3) := by decide +kernel
theorem dX5_busiest_14 : decode cX5_busiest 14 = .ok (.iconst 2, 1) := by decide +kernel
theorem dX5_busiest_15 : decode cX5_busiest 15 = .ok (.iload_n 2, 1) := by decide +kernel
theorem dX5_busiest_16 : decode cX5_busiest 16 = .ok (.iadd, 1) := by decide +kernel
theorem dX5_busiest_17 : decode cX5_busiest 17 = .ok (.iaload, 1) := by decide +kernel
theorem dX5_busiest_18 : decode cX5_busiest 18 = .ok (.invokestatic 145, 3) := by decide +kernel
theorem dX5_busiest_21 : decode cX5_busiest 21 = .ok (.aload_n 0, 1) := by decide +kernel
theorem dX5_busiest_22 : decode cX5_busiest 22 = .ok (.getfield 9, 3) := by decide +kernel
theorem dX5_busiest_25 : decode cX5_busiest 25 = .ok (.iconst 2, 1) := by decide +kernel
theorem dX5_busiest_26 : decode cX5_busiest 26 = .ok (.iload_n 1, 1) := by decide +kernel
theorem dX5_busiest_27 : decode cX5_busiest 27 = .ok (.iadd, 1) := by decide +kernel
theorem dX5_busiest_28 : decode cX5_busiest 28 = .ok (.iaload, 1) := by decide +kernel
theorem dX5_busiest_29 : decode cX5_busiest 29 = .ok (.invokestatic 145, 3) := by decide +kernel
theorem dX5_busiest_32 : decode cX5_busiest 32 = .ok (.if_icmp .le 5, 3) := by decide +kernel
theorem dX5_busiest_35 : decode cX5_busiest 35 = .ok (.iload_n 2, 1) := by decide +kernel
theorem dX5_busiest_36 : decode cX5_busiest 36 = .ok (.istore_n 1, 1) := by decide +kernel
theorem dX5_busiest_37 : decode cX5_busiest 37 = .ok (.iinc 2 1, 3) := by decide +kernel
theorem dX5_busiest_40 : decode cX5_busiest 40 = .ok (.goto (-36), 3) := by decide +kernel
theorem dX5_busiest_43 : decode cX5_busiest 43 = .ok (.iload_n 1, 1) := by decide +kernel
theorem dX5_busiest_44 : decode cX5_busiest 44 = .ok (.ireturn, 1) := by decide +kernel
theorem dX5_near_0 : decode cX5_near 0 = .ok (.iload_n 1, 1) := by decide +kernel
theorem dX5_near_1 : decode cX5_near 1 = .ok (.invokestatic 104, 3) := by decide +kernel
theorem dX5_near_4 : decode cX5_near 4 = .ok (.ifCond .eq 14, 3) := by decide +kernel
theorem dX5_near_7 : decode cX5_near 7 = .ok (.aload_n 0, 1) := by decide +kernel
theorem dX5_near_8 : decode cX5_near 8 = .ok (.getfield 9, 3) := by decide +kernel
theorem dX5_near_11 : decode cX5_near 11 = .ok (.iconst 2, 1) := by decide +kernel
theorem dX5_near_12 : decode cX5_near 12 = .ok (.iload_n 1, 1) := by decide +kernel
theorem dX5_near_13 : decode cX5_near 13 = .ok (.iadd, 1) := by decide +kernel
theorem dX5_near_14 : decode cX5_near 14 = .ok (.iaload, 1) := by decide +kernel
theorem dX5_near_15 : decode cX5_near 15 = .ok (.goto 8, 3) := by decide +kernel
theorem dX5_near_18 : decode cX5_near 18 = .ok (.aload_n 0, 1) := by decide +kernel
theorem dX5_near_19 : decode cX5_near 19 = .ok (.iconst (-1), 1) := by decide +kernel
theorem dX5_near_20 : decode cX5_near 20 = .ok (.invokevirtual 42, 3) := by decide +kernel
theorem dX5_near_23 : decode cX5_near 23 = .ok (.ireturn, 1) := by decide +kernel
theorem dX5_mostApart_0 : decode cX5_mostApart 0 = .ok (.iconst 0, 1) := by decide +kernel
theorem dX5_mostApart_1 : decode cX5_mostApart 1 = .ok (.istore_n 1, 1) := by decide +kernel
theorem dX5_mostApart_2 : decode cX5_mostApart 2 = .ok (.iconst 0, 1) := by decide +kernel
theorem dX5_mostApart_3 : decode cX5_mostApart 3 = .ok (.istore_n 2, 1) := by decide +kernel
theorem dX5_mostApart_4 : decode cX5_mostApart 4 = .ok (.iload_n 2, 1) := by decide +kernel
theorem dX5_mostApart_5 : decode cX5_mostApart 5 = .ok (.bipush 64, 2) := by decide +kernel
theorem dX5_mostApart_7 : decode cX5_mostApart 7 = .ok (.if_icmp .ge 41, 3) := by decide +kernel
theorem dX5_mostApart_10 : decode cX5_mostApart 10 = .ok (.aload_n 0, 1) := by decide +kernel
theorem dX5_mostApart_11 : decode cX5_mostApart 11 = .ok (.getfield 22, 3) := by decide +kernel
theorem dX5_mostApart_14 : decode cX5_mostApart 14 = .ok (.iload_n 2, 1) := by decide +kernel
theorem dX5_mostApart_15 : decode cX5_mostApart 15 = .ok (.iaload, 1) := by decide +kernel
theorem dX5_mostApart_16 : decode cX5_mostApart 16 = .ok (.bipush 9, 2) := by decide +kernel
theorem dX5_mostApart_18 : decode cX5_mostApart 18 = .ok (.if_icmp .ge 22, 3) := by decide +kernel
theorem dX5_mostApart_21 : decode cX5_mostApart 21 = .ok (.aload_n 0, 1) := by decide +kernel
theorem dX5_mostApart_22 : decode cX5_mostApart 22 = .ok (.getfield 22, 3) := by decide +kernel
theorem dX5_mostApart_25 : decode cX5_mostApart 25 = .ok (.iload_n 2, 1) := by decide +kernel
theorem dX5_mostApart_26 : decode cX5_mostApart 26 = .ok (.iaload, 1) := by decide +kernel
theorem dX5_mostApart_27 : decode cX5_mostApart 27 = .ok (.iload_n 1, 1) := by decide +kernel
theorem dX5_mostApart_28 : decode cX5_mostApart 28 = .ok (.if_icmp .le 12, 3) := by decide +kernel
theorem dX5_mostApart_31 : decode cX5_mostApart 31 = .ok (.aload_n 0, 1) := by decide +kernel
theorem dX5_mostApart_32 : decode cX5_mostApart 32 = .ok (.getfield 22, 3) := by decide +kernel
theorem dX5_mostApart_35 : decode cX5_mostApart 35 = .ok (.iload_n 2, 1) := by decide +kernel
theorem dX5_mostApart_36 : decode cX5_mostApart 36 = .ok (.iaload, 1) := by decide +kernel
theorem dX5_mostApart_37 : decode cX5_mostApart 37 = .ok (.goto 4, 3) := by decide +kernel
theorem dX5_mostApart_40 : decode cX5_mostApart 40 = .ok (.iload_n 1, 1) := by decide +kernel
theorem dX5_mostApart_41 : decode cX5_mostApart 41 = .ok (.istore_n 1, 1) := by decide +kernel
theorem dX5_mostApart_42 : decode cX5_mostApart 42 = .ok (.iinc 2 1, 3) := by decide +kernel
theorem dX5_mostApart_45 : decode cX5_mostApart 45 = .ok (.goto (-41), 3) := by decide +kernel
theorem dX5_mostApart_48 : decode cX5_mostApart 48 = .ok (.iload_n 1, 1) := by decide +kernel
theorem dX5_mostApart_49 : decode cX5_mostApart 49 = .ok (.ireturn, 1) := by decide +kernel
theorem dX5_apart_0 : decode cX5_apart 0 = .ok (.iload_n 1, 1) := by decide +kernel
theorem dX5_apart_1 : decode cX5_apart 1 = .ok (.iconst 0, 1) := by decide +kernel
theorem dX5_apart_2 : decode cX5_apart 2 = .ok (.iconst 3, 1) := by decide +kernel
theorem dX5_apart_3 : decode cX5_apart 3 = .ok (.invokestatic 46, 3) := by decide +kernel
theorem dX5_apart_6 : decode cX5_apart 6 = .ok (.ifCond .ne 10, 3) := by decide +kernel
theorem dX5_apart_9 : decode cX5_apart 9 = .ok (.aload_n 0, 1) := by decide +kernel
theorem dX5_apart_10 : decode cX5_apart 10 = .ok (.bipush (-2), 2) := by decide +kernel
theorem dX5_apart_12 : decode cX5_apart 12 = .ok (.invokevirtual 42, 3) := by decide +kernel
theorem dX5_apart_15 : decode cX5_apart 15 = .ok (.ireturn, 1) := by decide +kernel
theorem dX5_apart_16 : decode cX5_apart 16 = .ok (.aload_n 0, 1) := by decide +kernel
theorem dX5_apart_17 : decode cX5_apart 17 = .ok (.aload_n 0, 1) := by decide +kernel
theorem dX5_apart_18 : decode cX5_apart 18 = .ok (.getfield 9, 3) := by decide +kernel
theorem dX5_apart_21 : decode cX5_apart 21 = .ok (.invokevirtual 72, 3) := by decide +kernel
theorem dX5_apart_24 : decode cX5_apart 24 = .ok (.iload_n 1, 1) := by decide +kernel
theorem dX5_apart_25 : decode cX5_apart 25 = .ok (.ifCond .ne 8, 3) := by decide +kernel
theorem dX5_apart_28 : decode cX5_apart 28 = .ok (.aload_n 0, 1) := by decide +kernel
theorem dX5_apart_29 : decode cX5_apart 29 = .ok (.invokevirtual 171, 3) := by decide +kernel
theorem dX5_apart_32 : decode cX5_apart 32 = .ok (.ireturn, 1) := by decide +kernel
theorem dX5_apart_33 : decode cX5_apart 33 = .ok (.iconst 0, 1) := by decide +kernel
theorem dX5_apart_34 : decode cX5_apart 34 = .ok (.istore_n 2, 1) := by decide +kernel
theorem dX5_apart_35 : decode cX5_apart 35 = .ok (.iload_n 1, 1) := by decide +kernel
theorem dX5_apart_36 : decode cX5_apart 36 = .ok (.iconst 1, 1) := by decide +kernel
theorem dX5_apart_37 : decode cX5_apart 37 = .ok (.if_icmp .ne 41, 3) := by decide +kernel
theorem dX5_apart_40 : decode cX5_apart 40 = .ok (.iconst 0, 1) := by decide +kernel
theorem dX5_apart_41 : decode cX5_apart 41 = .ok (.istore_n 3, 1) := by decide +kernel
theorem dX5_apart_42 : decode cX5_apart 42 = .ok (.iload_n 3, 1) := by decide +kernel
theorem dX5_apart_43 : decode cX5_apart 43 = .ok (.bipush 8, 2) := by decide +kernel
theorem dX5_apart_45 : decode cX5_apart 45 = .ok (.if_icmp .ge 30, 3) := by decide +kernel
theorem dX5_apart_48 : decode cX5_apart 48 = .ok (.iload_n 2, 1) := by decide +kernel
theorem dX5_apart_49 : decode cX5_apart 49 = .ok (.aload_n 0, 1) := by decide +kernel
theorem dX5_apart_50 : decode cX5_apart 50 = .ok (.getfield 22, 3) := by decide +kernel
theorem dX5_apart_53 : decode cX5_apart 53 = .ok (.iload_n 3, 1) := by decide +kernel
theorem dX5_apart_54 : decode cX5_apart 54 = .ok (.iaload, 1) := by decide +kernel
theorem dX5_apart_55 : decode cX5_apart 55 = .ok (.bipush 9, 2) := by decide +kernel
theorem dX5_apart_57 : decode cX5_apart 57 = .ok (.if_icmp .ne 9, 3) := by decide +kernel
theorem dX5_apart_60 : decode cX5_apart 60 = .ok (.iconst 1, 1) := by decide +kernel
theorem dX5_apart_61 : decode cX5_apart 61 = .ok (.iload_n 3, 1) := by decide +kernel
theorem dX5_apart_62 : decode cX5_apart 62 = .ok (.ishl, 1) := by decide +kernel
theorem dX5_apart_63 : decode cX5_apart 63 = .ok (.goto 4, 3) := by decide +kernel
theorem dX5_apart_66 : decode cX5_apart 66 = .ok (.iconst 0, 1) := by decide +kernel
theorem dX5_apart_67 : decode cX5_apart 67 = .ok (.ior, 1) := by decide +kernel
theorem dX5_apart_68 : decode cX5_apart 68 = .ok (.istore_n 2, 1) := by decide +kernel
theorem dX5_apart_69 : decode cX5_apart 69 = .ok (.iinc 3 1, 3) := by decide +kernel
theorem dX5_apart_72 : decode cX5_apart 72 = .ok (.goto (-30), 3) := by decide +kernel
theorem dX5_apart_75 : decode cX5_apart 75 = .ok (.goto 96, 3) := by decide +kernel
theorem dX5_apart_78 : decode cX5_apart 78 = .ok (.iconst 0, 1) := by decide +kernel
theorem dX5_apart_79 : decode cX5_apart 79 = .ok (.istore_n 3, 1) := by decide +kernel
theorem dX5_apart_80 : decode cX5_apart 80 = .ok (.iload_n 3, 1) := by decide +kernel
theorem dX5_apart_81 : decode cX5_apart 81 = .ok (.aload_n 0, 1) := by decide +kernel
theorem dX5_apart_82 : decode cX5_apart 82 = .ok (.getfield 9, 3) := by decide +kernel
theorem dX5_apart_85 : decode cX5_apart 85 = .ok (.iconst 0, 1) := by decide +kernel
theorem dX5_apart_86 : decode cX5_apart 86 = .ok (.iaload, 1) := by decide +kernel
theorem dX5_apart_87 : decode cX5_apart 87 = .ok (.if_icmp .ge 84, 3) := by decide +kernel
theorem dX5_apart_90 : decode cX5_apart 90 = .ok (.iload_n 2, 1) := by decide +kernel
theorem dX5_apart_91 : decode cX5_apart 91 = .ok (.iload_n 1, 1) := by decide +kernel
theorem dX5_apart_92 : decode cX5_apart 92 = .ok (.iconst 2, 1) := by decide +kernel
theorem dX5_apart_93 : decode cX5_apart 93 = .ok (.if_icmp .ne 29, 3) := by decide +kernel
theorem dX5_apart_96 : decode cX5_apart 96 = .ok (.aload_n 0, 1) := by decide +kernel
theorem dX5_apart_97 : decode cX5_apart 97 = .ok (.getfield 9, 3) := by decide +kernel
theorem dX5_apart_100 : decode cX5_apart 100 = .ok (.iload_n 3, 1) := by decide +kernel
theorem dX5_apart_101 : decode cX5_apart 101 = .ok (.iconst 2, 1) := by decide +kernel
theorem dX5_apart_102 : decode cX5_apart 102 = .ok (.invokestatic 58, 3) := by decide +kernel
theorem dX5_apart_105 : decode cX5_apart 105 = .ok (.iaload, 1) := by decide +kernel
theorem dX5_apart_106 : decode cX5_apart 106 = .ok (.aload_n 0, 1) := by decide +kernel
theorem dX5_apart_107 : decode cX5_apart 107 = .ok (.getfield 9, 3) := by decide +kernel
theorem dX5_apart_110 : decode cX5_apart 110 = .ok (.iload_n 3, 1) := by decide +kernel
theorem dX5_apart_111 : decode cX5_apart 111 = .ok (.iconst 3, 1) := by decide +kernel
theorem dX5_apart_112 : decode cX5_apart 112 = .ok (.invokestatic 58, 3) := by decide +kernel
theorem dX5_apart_115 : decode cX5_apart 115 = .ok (.iaload, 1) := by decide +kernel
theorem dX5_apart_116 : decode cX5_apart 116 = .ok (.if_icmp .ne 46, 3) := by decide +kernel
theorem dX5_apart_119 : decode cX5_apart 119 = .ok (.goto 37, 3) := by decide +kernel
theorem dX5_apart_122 : decode cX5_apart 122 = .ok (.aload_n 0, 1) := by decide +kernel
theorem dX5_apart_123 : decode cX5_apart 123 = .ok (.getfield 22, 3) := by decide +kernel
theorem dX5_apart_126 : decode cX5_apart 126 = .ok (.bipush 8, 2) := by decide +kernel
theorem dX5_apart_128 : decode cX5_apart 128 = .ok (.aload_n 0, 1) := by decide +kernel
theorem dX5_apart_129 : decode cX5_apart 129 = .ok (.getfield 9, 3) := by decide +kernel
theorem dX5_apart_132 : decode cX5_apart 132 = .ok (.iload_n 3, 1) := by decide +kernel
theorem dX5_apart_133 : decode cX5_apart 133 = .ok (.iconst 4, 1) := by decide +kernel
theorem dX5_apart_134 : decode cX5_apart 134 = .ok (.invokestatic 58, 3) := by decide +kernel
theorem dX5_apart_137 : decode cX5_apart 137 = .ok (.iaload, 1) := by decide +kernel
theorem dX5_apart_138 : decode cX5_apart 138 = .ok (.imul, 1) := by decide +kernel
theorem dX5_apart_139 : decode cX5_apart 139 = .ok (.aload_n 0, 1) := by decide +kernel
theorem dX5_apart_140 : decode cX5_apart 140 = .ok (.getfield 9, 3) := by decide +kernel
theorem dX5_apart_143 : decode cX5_apart 143 = .ok (.iload_n 3, 1) := by decide +kernel
theorem dX5_apart_144 : decode cX5_apart 144 = .ok (.iconst 3, 1) := by decide +kernel
theorem dX5_apart_145 : decode cX5_apart 145 = .ok (.invokestatic 58, 3) := by decide +kernel
theorem dX5_apart_148 : decode cX5_apart 148 = .ok (.iaload, 1) := by decide +kernel
theorem dX5_apart_149 : decode cX5_apart 149 = .ok (.iadd, 1) := by decide +kernel
theorem dX5_apart_150 : decode cX5_apart 150 = .ok (.iaload, 1) := by decide +kernel
theorem dX5_apart_151 : decode cX5_apart 151 = .ok (.bipush 9, 2) := by decide +kernel
theorem dX5_apart_153 : decode cX5_apart 153 = .ok (.if_icmp .ne 9, 3) := by decide +kernel
theorem dX5_apart_156 : decode cX5_apart 156 = .ok (.iconst 1, 1) := by decide +kernel
theorem dX5_apart_157 : decode cX5_apart 157 = .ok (.iload_n 3, 1) := by decide +kernel
theorem dX5_apart_158 : decode cX5_apart 158 = .ok (.ishl, 1) := by decide +kernel
theorem dX5_apart_159 : decode cX5_apart 159 = .ok (.goto 4, 3) := by decide +kernel
theorem dX5_apart_162 : decode cX5_apart 162 = .ok (.iconst 0, 1) := by decide +kernel
theorem dX5_apart_163 : decode cX5_apart 163 = .ok (.ior, 1) := by decide +kernel
theorem dX5_apart_164 : decode cX5_apart 164 = .ok (.istore_n 2, 1) := by decide +kernel
theorem dX5_apart_165 : decode cX5_apart 165 = .ok (.iinc 3 1, 3) := by decide +kernel
theorem dX5_apart_168 : decode cX5_apart 168 = .ok (.goto (-88), 3) := by decide +kernel
theorem dX5_apart_171 : decode cX5_apart 171 = .ok (.iload_n 2, 1) := by decide +kernel
theorem dX5_apart_172 : decode cX5_apart 172 = .ok (.ireturn, 1) := by decide +kernel
theorem dX5_tired_0 : decode cX5_tired 0 = .ok (.bipush (-9), 2) := by decide +kernel
theorem dX5_tired_2 : decode cX5_tired 2 = .ok (.istore_n 1, 1) := by decide +kernel
theorem dX5_tired_3 : decode cX5_tired 3 = .ok (.iconst 0, 1) := by decide +kernel
theorem dX5_tired_4 : decode cX5_tired 4 = .ok (.istore_n 2, 1) := by decide +kernel
theorem dX5_tired_5 : decode cX5_tired 5 = .ok (.iload_n 2, 1) := by decide +kernel
theorem dX5_tired_6 : decode cX5_tired 6 = .ok (.aload_n 0, 1) := by decide +kernel
theorem dX5_tired_7 : decode cX5_tired 7 = .ok (.getfield 9, 3) := by decide +kernel
theorem dX5_tired_10 : decode cX5_tired 10 = .ok (.iconst 0, 1) := by decide +kernel
theorem dX5_tired_11 : decode cX5_tired 11 = .ok (.iaload, 1) := by decide +kernel
theorem dX5_tired_12 : decode cX5_tired 12 = .ok (.if_icmp .ge 40, 3) := by decide +kernel
theorem dX5_tired_15 : decode cX5_tired 15 = .ok (.iload_n 1, 1) := by decide +kernel
theorem dX5_tired_16 : decode cX5_tired 16 = .ok (.ifCond .lt 28, 3) := by decide +kernel
theorem dX5_tired_19 : decode cX5_tired 19 = .ok (.aload_n 0, 1) := by decide +kernel
theorem dX5_tired_20 : decode cX5_tired 20 = .ok (.getfield 9, 3) := by decide +kernel
theorem dX5_tired_23 : decode cX5_tired 23 = .ok (.iload_n 2, 1) := by decide +kernel
theorem dX5_tired_24 : decode cX5_tired 24 = .ok (.bipush 6, 2) := by decide +kernel
theorem dX5_tired_26 : decode cX5_tired 26 = .ok (.invokestatic 58, 3) := by decide +kernel
theorem dX5_tired_29 : decode cX5_tired 29 = .ok (.iaload, 1) := by decide +kernel
theorem dX5_tired_30 : decode cX5_tired 30 = .ok (.aload_n 0, 1) := by decide +kernel
theorem dX5_tired_31 : decode cX5_tired 31 = .ok (.getfield 9, 3) := by decide +kernel
theorem dX5_tired_34 : decode cX5_tired 34 = .ok (.iload_n 1, 1) := by decide +kernel
theorem dX5_tired_35 : decode cX5_tired 35 = .ok (.bipush 6, 2) := by decide +kernel
theorem dX5_tired_37 : decode cX5_tired 37 = .ok (.invokestatic 58, 3) := by decide +kernel
theorem dX5_tired_40 : decode cX5_tired 40 = .ok (.iaload, 1) := by decide +kernel
theorem dX5_tired_41 : decode cX5_tired 41 = .ok (.if_icmp .le 5, 3) := by decide +kernel
theorem dX5_tired_44 : decode cX5_tired 44 = .ok (.iload_n 2, 1) := by decide +kernel
theorem dX5_tired_45 : decode cX5_tired 45 = .ok (.istore_n 1, 1) := by decide +kernel
theorem dX5_tired_46 : decode cX5_tired 46 = .ok (.iinc 2 1, 3) := by decide +kernel
theorem dX5_tired_49 : decode cX5_tired 49 = .ok (.goto (-44), 3) := by decide +kernel
theorem dX5_tired_52 : decode cX5_tired 52 = .ok (.iload_n 1, 1) := by decide +kernel
theorem dX5_tired_53 : decode cX5_tired 53 = .ok (.ireturn, 1) := by decide +kernel
theorem dX5_truly_0 : decode cX5_truly 0 = .ok (.aload_n 0, 1) := by decide +kernel
theorem dX5_truly_1 : decode cX5_truly 1 = .ok (.iload_n 1, 1) := by decide +kernel
theorem dX5_truly_2 : decode cX5_truly 2 = .ok (.invokevirtual 118, 3) := by decide +kernel
theorem dX5_truly_5 : decode cX5_truly 5 = .ok (.ifCond .ne 9, 3) := by decide +kernel
theorem dX5_truly_8 : decode cX5_truly 8 = .ok (.aload_n 0, 1) := by decide +kernel
theorem dX5_truly_9 : decode cX5_truly 9 = .ok (.iconst (-1), 1) := by decide +kernel
theorem dX5_truly_10 : decode cX5_truly 10 = .ok (.invokevirtual 42, 3) := by decide +kernel
theorem dX5_truly_13 : decode cX5_truly 13 = .ok (.ireturn, 1) := by decide +kernel
theorem dX5_truly_14 : decode cX5_truly 14 = .ok (.aload_n 0, 1) := by decide +kernel
theorem dX5_truly_15 : decode cX5_truly 15 = .ok (.iconst 0, 1) := by decide +kernel
theorem dX5_truly_16 : decode cX5_truly 16 = .ok (.invokevirtual 148, 3) := by decide +kernel
theorem dX5_truly_19 : decode cX5_truly 19 = .ok (.iconst 0, 1) := by decide +kernel
theorem dX5_truly_20 : decode cX5_truly 20 = .ok (.istore_n 2, 1) := by decide +kernel
theorem dX5_truly_21 : decode cX5_truly 21 = .ok (.iload_n 2, 1) := by decide +kernel
theorem dX5_truly_22 : decode cX5_truly 22 = .ok (.bipush 99, 2) := by decide +kernel
theorem dX5_truly_24 : decode cX5_truly 24 = .ok (.if_icmp .gt 33, 3) := by decide +kernel
theorem dX5_truly_27 : decode cX5_truly 27 = .ok (.aload_n 0, 1) := by decide +kernel
theorem dX5_truly_28 : decode cX5_truly 28 = .ok (.getfield 13, 3) := by decide +kernel
theorem dX5_truly_31 : decode cX5_truly 31 = .ok (.iload_n 1, 1) := by decide +kernel
theorem dX5_truly_32 : decode cX5_truly 32 = .ok (.iconst 5, 1) := by decide +kernel
theorem dX5_truly_33 : decode cX5_truly 33 = .ok (.invokestatic 58, 3) := by decide +kernel
theorem dX5_truly_36 : decode cX5_truly 36 = .ok (.iaload, 1) := by decide +kernel
theorem dX5_truly_37 : decode cX5_truly 37 = .ok (.ifCond .ne 5, 3) := by decide +kernel
theorem dX5_truly_40 : decode cX5_truly 40 = .ok (.iload_n 2, 1) := by decide +kernel
theorem dX5_truly_41 : decode cX5_truly 41 = .ok (.ireturn, 1) := by decide +kernel
theorem dX5_truly_42 : decode cX5_truly 42 = .ok (.aload_n 0, 1) := by decide +kernel
theorem dX5_truly_43 : decode cX5_truly 43 = .ok (.aload_n 0, 1) := by decide +kernel
theorem dX5_truly_44 : decode cX5_truly 44 = .ok (.getfield 13, 3) := by decide +kernel
theorem dX5_truly_47 : decode cX5_truly 47 = .ok (.iconst 0, 1) := by decide +kernel
theorem dX5_truly_48 : decode cX5_truly 48 = .ok (.invokevirtual 76, 3) := by decide +kernel
theorem dX5_truly_51 : decode cX5_truly 51 = .ok (.iinc 2 1, 3) := by decide +kernel
theorem dX5_truly_54 : decode cX5_truly 54 = .ok (.goto (-33), 3) := by decide +kernel
theorem dX5_truly_57 : decode cX5_truly 57 = .ok (.bipush (-9), 2) := by decide +kernel
theorem dX5_truly_59 : decode cX5_truly 59 = .ok (.ireturn, 1) := by decide +kernel
theorem dX5_stepsLeft_0 : decode cX5_stepsLeft 0 = .ok (.aload_n 0, 1) := by decide +kernel
theorem dX5_stepsLeft_1 : decode cX5_stepsLeft 1 = .ok (.getfield 22, 3) := by decide +kernel
theorem dX5_stepsLeft_4 : decode cX5_stepsLeft 4 = .ok (.bipush 8, 2) := by decide +kernel
theorem dX5_stepsLeft_6 : decode cX5_stepsLeft 6 = .ok (.aload_n 1, 1) := by decide +kernel
theorem dX5_stepsLeft_7 : decode cX5_stepsLeft 7 = .ok (.iload_n 2, 1) := by decide +kernel
theorem dX5_stepsLeft_8 : decode cX5_stepsLeft 8 = .ok (.iconst 4, 1) := by decide +kernel
theorem dX5_stepsLeft_9 : decode cX5_stepsLeft 9 = .ok (.invokestatic 58, 3) := by decide +kernel
theorem dX5_stepsLeft_12 : decode cX5_stepsLeft 12 = .ok (.iaload, 1) := by decide +kernel
theorem dX5_stepsLeft_13 : decode cX5_stepsLeft 13 = .ok (.imul, 1) := by decide +kernel
theorem dX5_stepsLeft_14 : decode cX5_stepsLeft 14 = .ok (.aload_n 1, 1) := by decide +kernel
theorem dX5_stepsLeft_15 : decode cX5_stepsLeft 15 = .ok (.iload_n 2, 1) := by decide +kernel
theorem dX5_stepsLeft_16 : decode cX5_stepsLeft 16 = .ok (.iconst 3, 1) := by decide +kernel
theorem dX5_stepsLeft_17 : decode cX5_stepsLeft 17 = .ok (.invokestatic 58, 3) := by decide +kernel
theorem dX5_stepsLeft_20 : decode cX5_stepsLeft 20 = .ok (.iaload, 1) := by decide +kernel
theorem dX5_stepsLeft_21 : decode cX5_stepsLeft 21 = .ok (.iadd, 1) := by decide +kernel
theorem dX5_stepsLeft_22 : decode cX5_stepsLeft 22 = .ok (.iaload, 1) := by decide +kernel
theorem dX5_stepsLeft_23 : decode cX5_stepsLeft 23 = .ok (.ireturn, 1) := by decide +kernel
theorem dX5_totalIn_0 : decode cX5_totalIn 0 = .ok (.iconst 0, 1) := by decide +kernel
theorem dX5_totalIn_1 : decode cX5_totalIn 1 = .ok (.istore_n 1, 1) := by decide +kernel
theorem dX5_totalIn_2 : decode cX5_totalIn 2 = .ok (.iconst 0, 1) := by decide +kernel
theorem dX5_totalIn_3 : decode cX5_totalIn 3 = .ok (.istore_n 2, 1) := by decide +kernel
theorem dX5_totalIn_4 : decode cX5_totalIn 4 = .ok (.iload_n 2, 1) := by decide +kernel
theorem dX5_totalIn_5 : decode cX5_totalIn 5 = .ok (.aload_n 0, 1) := by decide +kernel
theorem dX5_totalIn_6 : decode cX5_totalIn 6 = .ok (.getfield 13, 3) := by decide +kernel
theorem dX5_totalIn_9 : decode cX5_totalIn 9 = .ok (.iconst 0, 1) := by decide +kernel
theorem dX5_totalIn_10 : decode cX5_totalIn 10 = .ok (.iaload, 1) := by decide +kernel
theorem dX5_totalIn_11 : decode cX5_totalIn 11 = .ok (.if_icmp .ge 21, 3) := by decide +kernel
theorem dX5_totalIn_14 : decode cX5_totalIn 14 = .ok (.iload_n 1, 1) := by decide +kernel
theorem dX5_totalIn_15 : decode cX5_totalIn 15 = .ok (.aload_n 0, 1) := by decide +kernel
theorem dX5_totalIn_16 : decode cX5_totalIn 16 = .ok (.aload_n 0, 1) := by decide +kernel
theorem dX5_totalIn_17 : decode cX5_totalIn 17 = .ok (.getfield 13, 3) := by decide +kernel
theorem dX5_totalIn_20 : decode cX5_totalIn 20 = .ok (.iload_n 2, 1) := by decide +kernel
theorem dX5_totalIn_21 : decode cX5_totalIn 21 = .ok (.invokevirtual 174, 3) := by decide +kernel
theorem dX5_totalIn_24 : decode cX5_totalIn 24 = .ok (.iadd, 1) := by decide +kernel
theorem dX5_totalIn_25 : decode cX5_totalIn 25 = .ok (.istore_n 1, 1) := by decide +kernel
theorem dX5_totalIn_26 : decode cX5_totalIn 26 = .ok (.iinc 2 1, 3) := by decide +kernel
theorem dX5_totalIn_29 : decode cX5_totalIn 29 = .ok (.goto (-25), 3) := by decide +kernel
theorem dX5_totalIn_32 : decode cX5_totalIn 32 = .ok (.iload_n 1, 1) := by decide +kernel
theorem dX5_totalIn_33 : decode cX5_totalIn 33 = .ok (.ireturn, 1) := by decide +kernel
theorem dX5_total_0 : decode cX5_total 0 = .ok (.iload_n 1, 1) := by decide +kernel
theorem dX5_total_1 : decode cX5_total 1 = .ok (.iconst 0, 1) := by decide +kernel
theorem dX5_total_2 : decode cX5_total 2 = .ok (.bipush 60, 2) := by decide +kernel
theorem dX5_total_4 : decode cX5_total 4 = .ok (.invokestatic 138, 3) := by decide +kernel
theorem dX5_total_7 : decode cX5_total 7 = .ok (.istore_n 2, 1) := by decide +kernel
theorem dX5_total_8 : decode cX5_total 8 = .ok (.iload_n 2, 1) := by decide +kernel
theorem dX5_total_9 : decode cX5_total 9 = .ok (.ifCond .eq 9, 3) := by decide +kernel
theorem dX5_total_12 : decode cX5_total 12 = .ok (.aload_n 0, 1) := by decide +kernel
theorem dX5_total_13 : decode cX5_total 13 = .ok (.iload_n 2, 1) := by decide +kernel
theorem dX5_total_14 : decode cX5_total 14 = .ok (.invokevirtual 42, 3) := by decide +kernel
theorem dX5_total_17 : decode cX5_total 17 = .ok (.ireturn, 1) := by decide +kernel
theorem dX5_total_18 : decode cX5_total 18 = .ok (.aload_n 0, 1) := by decide +kernel
theorem dX5_total_19 : decode cX5_total 19 = .ok (.iload_n 1, 1) := by decide +kernel
theorem dX5_total_20 : decode cX5_total 20 = .ok (.invokevirtual 148, 3) := by decide +kernel
theorem dX5_total_23 : decode cX5_total 23 = .ok (.aload_n 0, 1) := by decide +kernel
theorem dX5_total_24 : decode cX5_total 24 = .ok (.invokevirtual 178, 3) := by decide +kernel
theorem dX5_total_27 : decode cX5_total 27 = .ok (.ireturn, 1) := by decide +kernel
theorem dX5_bare_0 : decode cX5_bare 0 = .ok (.iload_n 1, 1) := by decide +kernel
theorem dX5_bare_1 : decode cX5_bare 1 = .ok (.iconst 0, 1) := by decide +kernel
theorem dX5_bare_2 : decode cX5_bare 2 = .ok (.bipush 30, 2) := by decide +kernel
theorem dX5_bare_4 : decode cX5_bare 4 = .ok (.invokestatic 138, 3) := by decide +kernel
theorem dX5_bare_7 : decode cX5_bare 7 = .ok (.istore_n 2, 1) := by decide +kernel
theorem dX5_bare_8 : decode cX5_bare 8 = .ok (.iload_n 2, 1) := by decide +kernel
theorem dX5_bare_9 : decode cX5_bare 9 = .ok (.ifCond .eq 9, 3) := by decide +kernel
theorem dX5_bare_12 : decode cX5_bare 12 = .ok (.aload_n 0, 1) := by decide +kernel
theorem dX5_bare_13 : decode cX5_bare 13 = .ok (.iload_n 2, 1) := by decide +kernel
theorem dX5_bare_14 : decode cX5_bare 14 = .ok (.invokevirtual 42, 3) := by decide +kernel
theorem dX5_bare_17 : decode cX5_bare 17 = .ok (.ireturn, 1) := by decide +kernel
theorem dX5_bare_18 : decode cX5_bare 18 = .ok (.aload_n 0, 1) := by decide +kernel
theorem dX5_bare_19 : decode cX5_bare 19 = .ok (.iload_n 1, 1) := by decide +kernel
theorem dX5_bare_20 : decode cX5_bare 20 = .ok (.invokevirtual 148, 3) := by decide +kernel
theorem dX5_bare_23 : decode cX5_bare 23 = .ok (.aload_n 0, 1) := by decide +kernel
theorem dX5_bare_24 : decode cX5_bare 24 = .ok (.invokevirtual 178, 3) := by decide +kernel
theorem dX5_bare_27 : decode cX5_bare 27 = .ok (.istore_n 3, 1) := by decide +kernel
theorem dX5_bare_28 : decode cX5_bare 28 = .ok (.bipush (-9), 2) := by decide +kernel
theorem dX5_bare_30 : decode cX5_bare 30 = .ok (.istore 4, 2) := by decide +kernel
theorem dX5_bare_32 : decode cX5_bare 32 = .ok (.iconst 0, 1) := by decide +kernel
theorem dX5_bare_33 : decode cX5_bare 33 = .ok (.istore 5, 2) := by decide +kernel
theorem dX5_bare_35 : decode cX5_bare 35 = .ok (.iload 5, 2) := by decide +kernel
theorem dX5_bare_37 : decode cX5_bare 37 = .ok (.aload_n 0, 1) := by decide +kernel
theorem dX5_bare_38 : decode cX5_bare 38 = .ok (.getfield 9, 3) := by decide +kernel
theorem dX5_bare_41 : decode cX5_bare 41 = .ok (.iconst 0, 1) := by decide +kernel
theorem dX5_bare_42 : decode cX5_bare 42 = .ok (.iaload, 1) := by decide +kernel
theorem dX5_bare_43 : decode cX5_bare 43 = .ok (.if_icmp .ge 61, 3) := by decide +kernel
theorem dX5_bare_46 : decode cX5_bare 46 = .ok (.aload_n 0, 1) := by decide +kernel
theorem dX5_bare_47 : decode cX5_bare 47 = .ok (.getfield 9, 3) := by decide +kernel
theorem dX5_bare_50 : decode cX5_bare 50 = .ok (.aload_n 0, 1) := by decide +kernel
theorem dX5_bare_51 : decode cX5_bare 51 = .ok (.getfield 13, 3) := by decide +kernel
theorem dX5_bare_54 : decode cX5_bare 54 = .ok (.invokestatic 127, 3) := by decide +kernel
theorem dX5_bare_57 : decode cX5_bare 57 = .ok (.aload_n 0, 1) := by decide +kernel
theorem dX5_bare_58 : decode cX5_bare 58 = .ok (.getfield 13, 3) := by decide +kernel
theorem dX5_bare_61 : decode cX5_bare 61 = .ok (.iload 5, 2) := by decide +kernel
theorem dX5_bare_63 : decode cX5_bare 63 = .ok (.iconst 5, 1) := by decide +kernel
theorem dX5_bare_64 : decode cX5_bare 64 = .ok (.invokestatic 58, 3) := by decide +kernel
theorem dX5_bare_67 : decode cX5_bare 67 = .ok (.iconst 0, 1) := by decide +kernel
theorem dX5_bare_68 : decode cX5_bare 68 = .ok (.iastore, 1) := by decide +kernel
theorem dX5_bare_69 : decode cX5_bare 69 = .ok (.aload_n 0, 1) := by decide +kernel
theorem dX5_bare_70 : decode cX5_bare 70 = .ok (.aload_n 0, 1) := by decide +kernel
theorem dX5_bare_71 : decode cX5_bare 71 = .ok (.getfield 13, 3) := by decide +kernel
theorem dX5_bare_74 : decode cX5_bare 74 = .ok (.iload_n 1, 1) := by decide +kernel
theorem dX5_bare_75 : decode cX5_bare 75 = .ok (.invokevirtual 121, 3) := by decide +kernel
theorem dX5_bare_78 : decode cX5_bare 78 = .ok (.aload_n 0, 1) := by decide +kernel
theorem dX5_bare_79 : decode cX5_bare 79 = .ok (.invokevirtual 178, 3) := by decide +kernel
theorem dX5_bare_82 : decode cX5_bare 82 = .ok (.iload_n 3, 1) := by decide +kernel
theorem dX5_bare_83 : decode cX5_bare 83 = .ok (.if_icmp .lt 6, 3) := by decide +kernel
theorem dX5_bare_86 : decode cX5_bare 86 = .ok (.goto 12, 3) := by decide +kernel
theorem dX5_bare_89 : decode cX5_bare 89 = .ok (.iload 5, 2) := by decide +kernel
theorem dX5_bare_91 : decode cX5_bare 91 = .ok (.istore 4, 2) := by decide +kernel
theorem dX5_bare_93 : decode cX5_bare 93 = .ok (.aload_n 0, 1) := by decide +kernel
theorem dX5_bare_94 : decode cX5_bare 94 = .ok (.invokevirtual 178, 3) := by decide +kernel
theorem dX5_bare_97 : decode cX5_bare 97 = .ok (.istore_n 3, 1) := by decide +kernel
theorem dX5_bare_98 : decode cX5_bare 98 = .ok (.iinc 5 1, 3) := by decide +kernel
theorem dX5_bare_101 : decode cX5_bare 101 = .ok (.goto (-66), 3) := by decide +kernel
theorem dX5_bare_104 : decode cX5_bare 104 = .ok (.iload 4, 2) := by decide +kernel
theorem dX5_bare_106 : decode cX5_bare 106 = .ok (.ireturn, 1) := by decide +kernel
theorem dX5_costBy_0 : decode cX5_costBy 0 = .ok (.aload_n 0, 1) := by decide +kernel
theorem dX5_costBy_1 : decode cX5_costBy 1 = .ok (.getfield 9, 3) := by decide +kernel
theorem dX5_costBy_4 : decode cX5_costBy 4 = .ok (.aload_n 0, 1) := by decide +kernel
theorem dX5_costBy_5 : decode cX5_costBy 5 = .ok (.getfield 13, 3) := by decide +kernel
theorem dX5_costBy_8 : decode cX5_costBy 8 = .ok (.invokestatic 127, 3) := by decide +kernel
theorem dX5_costBy_11 : decode cX5_costBy 11 = .ok (.iload_n 3, 1) := by decide +kernel
theorem dX5_costBy_12 : decode cX5_costBy 12 = .ok (.iconst 1, 1) := by decide +kernel
theorem dX5_costBy_13 : decode cX5_costBy 13 = .ok (.if_icmp .ne 11, 3) := by decide +kernel
theorem dX5_costBy_16 : decode cX5_costBy 16 = .ok (.aload_n 0, 1) := by decide +kernel
theorem dX5_costBy_17 : decode cX5_costBy 17 = .ok (.getfield 13, 3) := by decide +kernel
theorem dX5_costBy_20 : decode cX5_costBy 20 = .ok (.iload_n 2, 1) := by decide +kernel
theorem dX5_costBy_21 : decode cX5_costBy 21 = .ok (.invokestatic 108, 3) := by decide +kernel
theorem dX5_costBy_24 : decode cX5_costBy 24 = .ok (.iload 5, 2) := by decide +kernel
theorem dX5_costBy_26 : decode cX5_costBy 26 = .ok (.iconst 1, 1) := by decide +kernel
theorem dX5_costBy_27 : decode cX5_costBy 27 = .ok (.if_icmp .ne 12, 3) := by decide +kernel
theorem dX5_costBy_30 : decode cX5_costBy 30 = .ok (.aload_n 0, 1) := by decide +kernel
theorem dX5_costBy_31 : decode cX5_costBy 31 = .ok (.getfield 13, 3) := by decide +kernel
theorem dX5_costBy_34 : decode cX5_costBy 34 = .ok (.iload 4, 2) := by decide +kernel
theorem dX5_costBy_36 : decode cX5_costBy 36 = .ok (.invokestatic 108, 3) := by decide +kernel
theorem dX5_costBy_39 : decode cX5_costBy 39 = .ok (.aload_n 0, 1) := by decide +kernel
theorem dX5_costBy_40 : decode cX5_costBy 40 = .ok (.aload_n 0, 1) := by decide +kernel
theorem dX5_costBy_41 : decode cX5_costBy 41 = .ok (.getfield 13, 3) := by decide +kernel
theorem dX5_costBy_44 : decode cX5_costBy 44 = .ok (.iload 6, 2) := by decide +kernel
theorem dX5_costBy_46 : decode cX5_costBy 46 = .ok (.invokevirtual 121, 3) := by decide +kernel
theorem dX5_costBy_49 : decode cX5_costBy 49 = .ok (.aload_n 0, 1) := by decide +kernel
theorem dX5_costBy_50 : decode cX5_costBy 50 = .ok (.aload_n 0, 1) := by decide +kernel
theorem dX5_costBy_51 : decode cX5_costBy 51 = .ok (.getfield 13, 3) := by decide +kernel
theorem dX5_costBy_54 : decode cX5_costBy 54 = .ok (.iload_n 1, 1) := by decide +kernel
theorem dX5_costBy_55 : decode cX5_costBy 55 = .ok (.invokevirtual 174, 3) := by decide +kernel
theorem dX5_costBy_58 : decode cX5_costBy 58 = .ok (.iload_n 1, 1) := by decide +kernel
theorem dX5_costBy_59 : decode cX5_costBy 59 = .ok (.iload_n 2, 1) := by decide +kernel
theorem dX5_costBy_60 : decode cX5_costBy 60 = .ok (.if_icmp .ne 7, 3) := by decide +kernel
theorem dX5_costBy_63 : decode cX5_costBy 63 = .ok (.iload_n 3, 1) := by decide +kernel
theorem dX5_costBy_64 : decode cX5_costBy 64 = .ok (.goto 5, 3) := by decide +kernel
theorem dX5_costBy_67 : decode cX5_costBy 67 = .ok (.iload 5, 2) := by decide +kernel
theorem dX5_costBy_69 : decode cX5_costBy 69 = .ok (.iadd, 1) := by decide +kernel
theorem dX5_costBy_70 : decode cX5_costBy 70 = .ok (.ireturn, 1) := by decide +kernel
theorem dX5_two_0 : decode cX5_two 0 = .ok (.aload_n 0, 1) := by decide +kernel
theorem dX5_two_1 : decode cX5_two 1 = .ok (.iload_n 1, 1) := by decide +kernel
theorem dX5_two_2 : decode cX5_two 2 = .ok (.invokevirtual 118, 3) := by decide +kernel
theorem dX5_two_5 : decode cX5_two 5 = .ok (.ifCond .eq 26, 3) := by decide +kernel
theorem dX5_two_8 : decode cX5_two 8 = .ok (.aload_n 0, 1) := by decide +kernel
theorem dX5_two_9 : decode cX5_two 9 = .ok (.iload_n 2, 1) := by decide +kernel
theorem dX5_two_10 : decode cX5_two 10 = .ok (.invokevirtual 118, 3) := by decide +kernel
theorem dX5_two_13 : decode cX5_two 13 = .ok (.ifCond .eq 18, 3) := by decide +kernel
theorem dX5_two_16 : decode cX5_two 16 = .ok (.iload_n 1, 1) := by decide +kernel
theorem dX5_two_17 : decode cX5_two 17 = .ok (.iload_n 2, 1) := by decide +kernel
theorem dX5_two_18 : decode cX5_two 18 = .ok (.if_icmp .eq 13, 3) := by decide +kernel
theorem dX5_two_21 : decode cX5_two 21 = .ok (.iload_n 3, 1) := by decide +kernel
theorem dX5_two_22 : decode cX5_two 22 = .ok (.iconst 0, 1) := by decide +kernel
theorem dX5_two_23 : decode cX5_two 23 = .ok (.bipush 30, 2) := by decide +kernel
theorem dX5_two_25 : decode cX5_two 25 = .ok (.invokestatic 138, 3) := by decide +kernel
theorem dX5_two_28 : decode cX5_two 28 = .ok (.goto 4, 3) := by decide +kernel
theorem dX5_two_31 : decode cX5_two 31 = .ok (.iconst (-1), 1) := by decide +kernel
theorem dX5_two_32 : decode cX5_two 32 = .ok (.istore 4, 2) := by decide +kernel
theorem dX5_two_34 : decode cX5_two 34 = .ok (.iload 4, 2) := by decide +kernel
theorem dX5_two_36 : decode cX5_two 36 = .ok (.ifCond .eq 10, 3) := by decide +kernel
theorem dX5_two_39 : decode cX5_two 39 = .ok (.aload_n 0, 1) := by decide +kernel
theorem dX5_two_40 : decode cX5_two 40 = .ok (.iload 4, 2) := by decide +kernel
theorem dX5_two_42 : decode cX5_two 42 = .ok (.invokevirtual 42, 3) := by decide +kernel
theorem dX5_two_45 : decode cX5_two 45 = .ok (.ireturn, 1) := by decide +kernel
theorem dX5_two_46 : decode cX5_two 46 = .ok (.iconst 0, 1) := by decide +kernel
theorem dX5_two_47 : decode cX5_two 47 = .ok (.istore 5, 2) := by decide +kernel
theorem dX5_two_49 : decode cX5_two 49 = .ok (.iload 5, 2) := by decide +kernel
theorem dX5_two_51 : decode cX5_two 51 = .ok (.iconst 4, 1) := by decide +kernel
theorem dX5_two_52 : decode cX5_two 52 = .ok (.if_icmp .ge 88, 3) := by decide +kernel
theorem dX5_two_55 : decode cX5_two 55 = .ok (.iload 5, 2) := by decide +kernel
theorem dX5_two_57 : decode cX5_two 57 = .ok (.iconst 2, 1) := by decide +kernel
theorem dX5_two_58 : decode cX5_two 58 = .ok (.idiv, 1) := by decide +kernel
theorem dX5_two_59 : decode cX5_two 59 = .ok (.istore 6, 2) := by decide +kernel
theorem dX5_two_61 : decode cX5_two 61 = .ok (.iload 5, 2) := by decide +kernel
theorem dX5_two_63 : decode cX5_two 63 = .ok (.iconst 2, 1) := by decide +kernel
theorem dX5_two_64 : decode cX5_two 64 = .ok (.irem, 1) := by decide +kernel
theorem dX5_two_65 : decode cX5_two 65 = .ok (.istore 7, 2) := by decide +kernel
theorem dX5_two_67 : decode cX5_two 67 = .ok (.aload_n 0, 1) := by decide +kernel
theorem dX5_two_68 : decode cX5_two 68 = .ok (.iload_n 1, 1) := by decide +kernel
theorem dX5_two_69 : decode cX5_two 69 = .ok (.iload_n 1, 1) := by decide +kernel
theorem dX5_two_70 : decode cX5_two 70 = .ok (.iconst 1, 1) := by decide +kernel
theorem dX5_two_71 : decode cX5_two 71 = .ok (.iload 6, 2) := by decide +kernel
theorem dX5_two_73 : decode cX5_two 73 = .ok (.isub, 1) := by decide +kernel
theorem dX5_two_74 : decode cX5_two 74 = .ok (.iload_n 2, 1) := by decide +kernel
theorem dX5_two_75 : decode cX5_two 75 = .ok (.iload 7, 2) := by decide +kernel
theorem dX5_two_77 : decode cX5_two 77 = .ok (.iload_n 3, 1) := by decide +kernel
theorem dX5_two_78 : decode cX5_two 78 = .ok (.invokevirtual 181, 3) := by decide +kernel
theorem dX5_two_81 : decode cX5_two 81 = .ok (.aload_n 0, 1) := by decide +kernel
theorem dX5_two_82 : decode cX5_two 82 = .ok (.iload_n 1, 1) := by decide +kernel
theorem dX5_two_83 : decode cX5_two 83 = .ok (.iload_n 1, 1) := by decide +kernel
theorem dX5_two_84 : decode cX5_two 84 = .ok (.iload 6, 2) := by decide +kernel
theorem dX5_two_86 : decode cX5_two 86 = .ok (.iload_n 2, 1) := by decide +kernel
theorem dX5_two_87 : decode cX5_two 87 = .ok (.iload 7, 2) := by decide +kernel
theorem dX5_two_89 : decode cX5_two 89 = .ok (.iload_n 3, 1) := by decide +kernel
theorem dX5_two_90 : decode cX5_two 90 = .ok (.invokevirtual 181, 3) := by decide +kernel
theorem dX5_two_93 : decode cX5_two 93 = .ok (.if_icmp .lt 41, 3) := by decide +kernel
theorem dX5_two_96 : decode cX5_two 96 = .ok (.aload_n 0, 1) := by decide +kernel
theorem dX5_two_97 : decode cX5_two 97 = .ok (.iload_n 2, 1) := by decide +kernel
theorem dX5_two_98 : decode cX5_two 98 = .ok (.iload_n 1, 1) := by decide +kernel
theorem dX5_two_99 : decode cX5_two 99 = .ok (.iload 6, 2) := by decide +kernel
theorem dX5_two_101 : decode cX5_two 101 = .ok (.iload_n 2, 1) := by decide +kernel
theorem dX5_two_102 : decode cX5_two 102 = .ok (.iconst 1, 1) := by decide +kernel
theorem dX5_two_103 : decode cX5_two 103 = .ok (.iload 7, 2) := by decide +kernel
theorem dX5_two_105 : decode cX5_two 105 = .ok (.isub, 1) := by decide +kernel
theorem dX5_two_106 : decode cX5_two 106 = .ok (.iload_n 3, 1) := by decide +kernel
theorem dX5_two_107 : decode cX5_two 107 = .ok (.invokevirtual 181, 3) := by decide +kernel
theorem dX5_two_110 : decode cX5_two 110 = .ok (.aload_n 0, 1) := by decide +kernel
theorem dX5_two_111 : decode cX5_two 111 = .ok (.iload_n 2, 1) := by decide +kernel
theorem dX5_two_112 : decode cX5_two 112 = .ok (.iload_n 1, 1) := by decide +kernel
theorem dX5_two_113 : decode cX5_two 113 = .ok (.iload 6, 2) := by decide +kernel
theorem dX5_two_115 : decode cX5_two 115 = .ok (.iload_n 2, 1) := by decide +kernel
theorem dX5_two_116 : decode cX5_two 116 = .ok (.iload 7, 2) := by decide +kernel
theorem dX5_two_118 : decode cX5_two 118 = .ok (.iload_n 3, 1) := by decide +kernel
theorem dX5_two_119 : decode cX5_two 119 = .ok (.invokevirtual 181, 3) := by decide +kernel
theorem dX5_two_122 : decode cX5_two 122 = .ok (.if_icmp .lt 12, 3) := by decide +kernel
theorem dX5_two_125 : decode cX5_two 125 = .ok (.bipush 10, 2) := by decide +kernel
theorem dX5_two_127 : decode cX5_two 127 = .ok (.iload 6, 2) := by decide +kernel
theorem dX5_two_129 : decode cX5_two 129 = .ok (.imul, 1) := by decide +kernel
theorem dX5_two_130 : decode cX5_two 130 = .ok (.iload 7, 2) := by decide +kernel
theorem dX5_two_132 : decode cX5_two 132 = .ok (.iadd, 1) := by decide +kernel
theorem dX5_two_133 : decode cX5_two 133 = .ok (.ireturn, 1) := by decide +kernel
theorem dX5_two_134 : decode cX5_two 134 = .ok (.iinc 5 1, 3) := by decide +kernel
theorem dX5_two_137 : decode cX5_two 137 = .ok (.goto (-88), 3) := by decide +kernel
theorem dX5_two_140 : decode cX5_two 140 = .ok (.bipush (-9), 2) := by decide +kernel
theorem dX5_two_142 : decode cX5_two 142 = .ok (.ireturn, 1) := by decide +kernel
theorem dX5_gcd_0 : decode cX5_gcd 0 = .ok (.lload_n 0, 1) := by decide +kernel
theorem dX5_gcd_1 : decode cX5_gcd 1 = .ok (.lstore 4, 2) := by decide +kernel
theorem dX5_gcd_3 : decode cX5_gcd 3 = .ok (.lload_n 2, 1) := by decide +kernel
theorem dX5_gcd_4 : decode cX5_gcd 4 = .ok (.lstore 6, 2) := by decide +kernel
theorem dX5_gcd_6 : decode cX5_gcd 6 = .ok (.lload 6, 2) := by decide +kernel
theorem dX5_gcd_8 : decode cX5_gcd 8 = .ok (.lconst 0, 1) := by decide +kernel
theorem dX5_gcd_9 : decode cX5_gcd 9 = .ok (.lcmp, 1) := by decide +kernel
theorem dX5_gcd_10 : decode cX5_gcd 10 = .ok (.ifCond .eq 21, 3) := by decide +kernel
theorem dX5_gcd_13 : decode cX5_gcd 13 = .ok (.lload 4, 2) := by decide +kernel
theorem dX5_gcd_15 : decode cX5_gcd 15 = .ok (.lload 6, 2) := by decide +kernel
theorem dX5_gcd_17 : decode cX5_gcd 17 = .ok (.lrem, 1) := by decide +kernel
theorem dX5_gcd_18 : decode cX5_gcd 18 = .ok (.lstore 8, 2) := by decide +kernel
theorem dX5_gcd_20 : decode cX5_gcd 20 = .ok (.lload 6, 2) := by decide +kernel
theorem dX5_gcd_22 : decode cX5_gcd 22 = .ok (.lstore 4, 2) := by decide +kernel
theorem dX5_gcd_24 : decode cX5_gcd 24 = .ok (.lload 8, 2) := by decide +kernel
theorem dX5_gcd_26 : decode cX5_gcd 26 = .ok (.lstore 6, 2) := by decide +kernel
theorem dX5_gcd_28 : decode cX5_gcd 28 = .ok (.goto (-22), 3) := by decide +kernel
theorem dX5_gcd_31 : decode cX5_gcd 31 = .ok (.lload 4, 2) := by decide +kernel
theorem dX5_gcd_33 : decode cX5_gcd 33 = .ok (.lreturn, 1) := by decide +kernel
theorem dX5_partOf_0 : decode cX5_partOf 0 = .ok (.lload_n 0, 1) := by decide +kernel
theorem dX5_partOf_1 : decode cX5_partOf 1 = .ok (.lconst 0, 1) := by decide +kernel
theorem dX5_partOf_2 : decode cX5_partOf 2 = .ok (.lcmp, 1) := by decide +kernel
theorem dX5_partOf_3 : decode cX5_partOf 3 = .ok (.ifCond .ne 7, 3) := by decide +kernel
theorem dX5_partOf_6 : decode cX5_partOf 6 = .ok (.iload 4, 2) := by decide +kernel
theorem dX5_partOf_8 : decode cX5_partOf 8 = .ok (.i2l, 1) := by decide +kernel
theorem dX5_partOf_9 : decode cX5_partOf 9 = .ok (.lreturn, 1) := by decide +kernel
theorem dX5_partOf_10 : decode cX5_partOf 10 = .ok (.iload 4, 2) := by decide +kernel
theorem dX5_partOf_12 : decode cX5_partOf 12 = .ok (.ifCond .ne 7, 3) := by decide +kernel
theorem dX5_partOf_15 : decode cX5_partOf 15 = .ok (.lload_n 0, 1) := by decide +kernel
theorem dX5_partOf_16 : decode cX5_partOf 16 = .ok (.goto 4, 3) := by decide +kernel
theorem dX5_partOf_19 : decode cX5_partOf 19 = .ok (.lload_n 2, 1) := by decide +kernel
theorem dX5_partOf_20 : decode cX5_partOf 20 = .ok (.lload_n 0, 1) := by decide +kernel
theorem dX5_partOf_21 : decode cX5_partOf 21 = .ok (.lload_n 2, 1) := by decide +kernel
theorem dX5_partOf_22 : decode cX5_partOf 22 = .ok (.invokestatic 185, 3) := by decide +kernel
theorem dX5_partOf_25 : decode cX5_partOf 25 = .ok (.ldiv, 1) := by decide +kernel
theorem dX5_partOf_26 : decode cX5_partOf 26 = .ok (.lreturn, 1) := by decide +kernel
theorem dX5_mud_0 : decode cX5_mud 0 = .ok (.aload_n 0, 1) := by decide +kernel
theorem dX5_mud_1 : decode cX5_mud 1 = .ok (.iload_n 1, 1) := by decide +kernel
theorem dX5_mud_2 : decode cX5_mud 2 = .ok (.iload_n 2, 1) := by decide +kernel
theorem dX5_mud_3 : decode cX5_mud 3 = .ok (.invokevirtual 155, 3) := by decide +kernel
theorem dX5_mud_6 : decode cX5_mud 6 = .ok (.ifCond .eq 9, 3) := by decide +kernel
theorem dX5_mud_9 : decode cX5_mud 9 = .ok (.aload_n 0, 1) := by decide +kernel
theorem dX5_mud_10 : decode cX5_mud 10 = .ok (.iconst (-1), 1) := by decide +kernel
theorem dX5_mud_11 : decode cX5_mud 11 = .ok (.invokevirtual 189, 3) := by decide +kernel
theorem dX5_mud_14 : decode cX5_mud 14 = .ok (.lreturn, 1) := by decide +kernel
theorem dX5_mud_15 : decode cX5_mud 15 = .ok (.iload_n 3, 1) := by decide +kernel
theorem dX5_mud_16 : decode cX5_mud 16 = .ok (.ifCond .lt 9, 3) := by decide +kernel
theorem dX5_mud_19 : decode cX5_mud 19 = .ok (.iload 4, 2) := by decide +kernel
theorem dX5_mud_21 : decode cX5_mud 21 = .ok (.iconst 2, 1) := by decide +kernel
theorem dX5_mud_22 : decode cX5_mud 22 = .ok (.if_icmp .ge 10, 3) := by decide +kernel
theorem dX5_mud_25 : decode cX5_mud 25 = .ok (.aload_n 0, 1) := by decide +kernel
theorem dX5_mud_26 : decode cX5_mud 26 = .ok (.bipush (-4), 2) := by decide +kernel
theorem dX5_mud_28 : decode cX5_mud 28 = .ok (.invokevirtual 189, 3) := by decide +kernel
theorem dX5_mud_31 : decode cX5_mud 31 = .ok (.lreturn, 1) := by decide +kernel
theorem dX5_mud_32 : decode cX5_mud 32 = .ok (.iload_n 3, 1) := by decide +kernel
theorem dX5_mud_33 : decode cX5_mud 33 = .ok (.bipush 7, 2) := by decide +kernel
theorem dX5_mud_35 : decode cX5_mud 35 = .ok (.if_icmp .gt 10, 3) := by decide +kernel
theorem dX5_mud_38 : decode cX5_mud 38 = .ok (.iload 4, 2) := by decide +kernel
theorem dX5_mud_40 : decode cX5_mud 40 = .ok (.bipush 20, 2) := by decide +kernel
theorem dX5_mud_42 : decode cX5_mud 42 = .ok (.if_icmp .le 10, 3) := by decide +kernel
theorem dX5_mud_45 : decode cX5_mud 45 = .ok (.aload_n 0, 1) := by decide +kernel
theorem dX5_mud_46 : decode cX5_mud 46 = .ok (.bipush (-6), 2) := by decide +kernel
theorem dX5_mud_48 : decode cX5_mud 48 = .ok (.invokevirtual 189, 3) := by decide +kernel
theorem dX5_mud_51 : decode cX5_mud 51 = .ok (.lreturn, 1) := by decide +kernel
theorem dX5_mud_52 : decode cX5_mud 52 = .ok (.iload 5, 2) := by decide +kernel
theorem dX5_mud_54 : decode cX5_mud 54 = .ok (.iconst 0, 1) := by decide +kernel
theorem dX5_mud_55 : decode cX5_mud 55 = .ok (.iconst 1, 1) := by decide +kernel
theorem dX5_mud_56 : decode cX5_mud 56 = .ok (.invokestatic 46, 3) := by decide +kernel
theorem dX5_mud_59 : decode cX5_mud 59 = .ok (.ifCond .ne 10, 3) := by decide +kernel
theorem dX5_mud_62 : decode cX5_mud 62 = .ok (.aload_n 0, 1) := by decide +kernel
theorem dX5_mud_63 : decode cX5_mud 63 = .ok (.bipush (-2), 2) := by decide +kernel
theorem dX5_mud_65 : decode cX5_mud 65 = .ok (.invokevirtual 189, 3) := by decide +kernel
theorem dX5_mud_68 : decode cX5_mud 68 = .ok (.lreturn, 1) := by decide +kernel
theorem dX5_mud_69 : decode cX5_mud 69 = .ok (.lconst 0, 1) := by decide +kernel
theorem dX5_mud_70 : decode cX5_mud 70 = .ok (.lstore 6, 2) := by decide +kernel
theorem dX5_mud_72 : decode cX5_mud 72 = .ok (.lconst 1, 1) := by decide +kernel
theorem dX5_mud_73 : decode cX5_mud 73 = .ok (.lstore 8, 2) := by decide +kernel
theorem dX5_mud_75 : decode cX5_mud 75 = .ok (.iconst 0, 1) := by decide +kernel
theorem dX5_mud_76 : decode cX5_mud 76 = .ok (.istore 10, 2) := by decide +kernel
theorem dX5_mud_78 : decode cX5_mud 78 = .ok (.iload 10, 2) := by decide +kernel
theorem dX5_mud_80 : decode cX5_mud 80 = .ok (.iload_n 3, 1) := by decide +kernel
theorem dX5_mud_81 : decode cX5_mud 81 = .ok (.if_icmp .ge 17, 3) := by decide +kernel
theorem dX5_mud_84 : decode cX5_mud 84 = .ok (.lload 8, 2) := by decide +kernel
theorem dX5_mud_86 : decode cX5_mud 86 = .ok (.iload 4, 2) := by decide +kernel
theorem dX5_mud_88 : decode cX5_mud 88 = .ok (.i2l, 1) := by decide +kernel
theorem dX5_mud_89 : decode cX5_mud 89 = .ok (.lmul, 1) := by decide +kernel
theorem dX5_mud_90 : decode cX5_mud 90 = .ok (.lstore 8, 2) := by decide +kernel
theorem dX5_mud_92 : decode cX5_mud 92 = .ok (.iinc 10 1, 3) := by decide +kernel
theorem dX5_mud_95 : decode cX5_mud 95 = .ok (.goto (-17), 3) := by decide +kernel
theorem dX5_mud_98 : decode cX5_mud 98 = .ok (.iconst 0, 1) := by decide +kernel
theorem dX5_mud_99 : decode cX5_mud 99 = .ok (.istore 10, 2) := by decide +kernel
theorem dX5_mud_101 : decode cX5_mud 101 = .ok (.iload 10, 2) := by decide +kernel
theorem dX5_mud_103 : decode cX5_mud 103 = .ok (.iconst 1, 1) := by decide +kernel
theorem dX5_mud_104 : decode cX5_mud 104 = .ok (.iload_n 3, 1) := by decide +kernel
theorem dX5_mud_105 : decode cX5_mud 105 = .ok (.ishl, 1) := by decide +kernel
theorem dX5_mud_106 : decode cX5_mud 106 = .ok (.if_icmp .ge 96, 3) := by decide +kernel
theorem dX5_mud_109 : decode cX5_mud 109 = .ok (.lconst 1, 1) := by decide +kernel
theorem dX5_mud_110 : decode cX5_mud 110 = .ok (.lstore 11, 2) := by decide +kernel
theorem dX5_mud_112 : decode cX5_mud 112 = .ok (.aload_n 0, 1) := by decide +kernel
theorem dX5_mud_113 : decode cX5_mud 113 = .ok (.iconst 0, 1) := by decide +kernel
theorem dX5_mud_114 : decode cX5_mud 114 = .ok (.invokevirtual 148, 3) := by decide +kernel
theorem dX5_mud_117 : decode cX5_mud 117 = .ok (.iconst 0, 1) := by decide +kernel
theorem dX5_mud_118 : decode cX5_mud 118 = .ok (.istore 13, 2) := by decide +kernel
theorem dX5_mud_120 : decode cX5_mud 120 = .ok (.iload 13, 2) := by decide +kernel
theorem dX5_mud_122 : decode cX5_mud 122 = .ok (.iload_n 3, 1) := by decide +kernel
theorem dX5_mud_123 : decode cX5_mud 123 = .ok (.if_icmp .ge 48, 3) := by decide +kernel
theorem dX5_mud_126 : decode cX5_mud 126 = .ok (.lload 11, 2) := by decide +kernel
theorem dX5_mud_128 : decode cX5_mud 128 = .ok (.iload 10, 2) := by decide +kernel
theorem dX5_mud_130 : decode cX5_mud 130 = .ok (.iload 13, 2) := by decide +kernel
theorem dX5_mud_132 : decode cX5_mud 132 = .ok (.invokestatic 50, 3) := by decide +kernel
theorem dX5_mud_135 : decode cX5_mud 135 = .ok (.ifCond .eq 7, 3) := by decide +kernel
theorem dX5_mud_138 : decode cX5_mud 138 = .ok (.lconst 1, 1) := by decide +kernel
theorem dX5_mud_139 : decode cX5_mud 139 = .ok (.goto 8, 3) := by decide +kernel
theorem dX5_mud_142 : decode cX5_mud 142 = .ok (.iload 4, 2) := by decide +kernel
theorem dX5_mud_144 : decode cX5_mud 144 = .ok (.iconst 1, 1) := by decide +kernel
theorem dX5_mud_145 : decode cX5_mud 145 = .ok (.isub, 1) := by decide +kernel
theorem dX5_mud_146 : decode cX5_mud 146 = .ok (.i2l, 1) := by decide +kernel
theorem dX5_mud_147 : decode cX5_mud 147 = .ok (.lmul, 1) := by decide +kernel
theorem dX5_mud_148 : decode cX5_mud 148 = .ok (.lstore 11, 2) := by decide +kernel
theorem dX5_mud_150 : decode cX5_mud 150 = .ok (.aload_n 0, 1) := by decide +kernel
theorem dX5_mud_151 : decode cX5_mud 151 = .ok (.aload_n 0, 1) := by decide +kernel
theorem dX5_mud_152 : decode cX5_mud 152 = .ok (.getfield 13, 3) := by decide +kernel
theorem dX5_mud_155 : decode cX5_mud 155 = .ok (.iload 10, 2) := by decide +kernel
theorem dX5_mud_157 : decode cX5_mud 157 = .ok (.iload 13, 2) := by decide +kernel
theorem dX5_mud_159 : decode cX5_mud 159 = .ok (.invokestatic 50, 3) := by decide +kernel
theorem dX5_mud_162 : decode cX5_mud 162 = .ok (.invokevirtual 76, 3) := by decide +kernel
theorem dX5_mud_165 : decode cX5_mud 165 = .ok (.iinc 13 1, 3) := by decide +kernel
theorem dX5_mud_168 : decode cX5_mud 168 = .ok (.goto (-48), 3) := by decide +kernel
theorem dX5_mud_171 : decode cX5_mud 171 = .ok (.lload 6, 2) := by decide +kernel
theorem dX5_mud_173 : decode cX5_mud 173 = .ok (.aload_n 0, 1) := by decide +kernel
theorem dX5_mud_174 : decode cX5_mud 174 = .ok (.getfield 13, 3) := by decide +kernel
theorem dX5_mud_177 : decode cX5_mud 177 = .ok (.iload_n 1, 1) := by decide +kernel
theorem dX5_mud_178 : decode cX5_mud 178 = .ok (.iconst 4, 1) := by decide +kernel
theorem dX5_mud_179 : decode cX5_mud 179 = .ok (.invokestatic 58, 3) := by decide +kernel
theorem dX5_mud_182 : decode cX5_mud 182 = .ok (.iaload, 1) := by decide +kernel
theorem dX5_mud_183 : decode cX5_mud 183 = .ok (.iload_n 2, 1) := by decide +kernel
theorem dX5_mud_184 : decode cX5_mud 184 = .ok (.if_icmp .ne 8, 3) := by decide +kernel
theorem dX5_mud_187 : decode cX5_mud 187 = .ok (.lload 11, 2) := by decide +kernel
theorem dX5_mud_189 : decode cX5_mud 189 = .ok (.goto 4, 3) := by decide +kernel
theorem dX5_mud_192 : decode cX5_mud 192 = .ok (.lconst 0, 1) := by decide +kernel
theorem dX5_mud_193 : decode cX5_mud 193 = .ok (.ladd, 1) := by decide +kernel
theorem dX5_mud_194 : decode cX5_mud 194 = .ok (.lstore 6, 2) := by decide +kernel
theorem dX5_mud_196 : decode cX5_mud 196 = .ok (.iinc 10 1, 3) := by decide +kernel
theorem dX5_mud_199 : decode cX5_mud 199 = .ok (.goto (-98), 3) := by decide +kernel
theorem dX5_mud_202 : decode cX5_mud 202 = .ok (.lload 6, 2) := by decide +kernel
theorem dX5_mud_204 : decode cX5_mud 204 = .ok (.lload 8, 2) := by decide +kernel
theorem dX5_mud_206 : decode cX5_mud 206 = .ok (.iload 5, 2) := by decide +kernel
theorem dX5_mud_208 : decode cX5_mud 208 = .ok (.invokestatic 193, 3) := by decide +kernel
theorem dX5_mud_211 : decode cX5_mud 211 = .ok (.lreturn, 1) := by decide +kernel
theorem dX5_sum_0 : decode cX5_sum 0 = .ok (.iconst 0, 1) := by decide +kernel
theorem dX5_sum_1 : decode cX5_sum 1 = .ok (.istore_n 2, 1) := by decide +kernel
theorem dX5_sum_2 : decode cX5_sum 2 = .ok (.iconst 0, 1) := by decide +kernel
theorem dX5_sum_3 : decode cX5_sum 3 = .ok (.istore_n 3, 1) := by decide +kernel
theorem dX5_sum_4 : decode cX5_sum 4 = .ok (.iload_n 3, 1) := by decide +kernel
theorem dX5_sum_5 : decode cX5_sum 5 = .ok (.aload_n 0, 1) := by decide +kernel
theorem dX5_sum_6 : decode cX5_sum 6 = .ok (.getfield 9, 3) := by decide +kernel
theorem dX5_sum_9 : decode cX5_sum 9 = .ok (.iconst 0, 1) := by decide +kernel
theorem dX5_sum_10 : decode cX5_sum 10 = .ok (.iaload, 1) := by decide +kernel
theorem dX5_sum_11 : decode cX5_sum 11 = .ok (.if_icmp .ge 22, 3) := by decide +kernel
theorem dX5_sum_14 : decode cX5_sum 14 = .ok (.iload_n 2, 1) := by decide +kernel
theorem dX5_sum_15 : decode cX5_sum 15 = .ok (.aload_n 0, 1) := by decide +kernel
theorem dX5_sum_16 : decode cX5_sum 16 = .ok (.getfield 9, 3) := by decide +kernel
theorem dX5_sum_19 : decode cX5_sum 19 = .ok (.iload_n 3, 1) := by decide +kernel
theorem dX5_sum_20 : decode cX5_sum 20 = .ok (.iload_n 1, 1) := by decide +kernel
theorem dX5_sum_21 : decode cX5_sum 21 = .ok (.invokestatic 58, 3) := by decide +kernel
theorem dX5_sum_24 : decode cX5_sum 24 = .ok (.iaload, 1) := by decide +kernel
theorem dX5_sum_25 : decode cX5_sum 25 = .ok (.iadd, 1) := by decide +kernel
theorem dX5_sum_26 : decode cX5_sum 26 = .ok (.istore_n 2, 1) := by decide +kernel
theorem dX5_sum_27 : decode cX5_sum 27 = .ok (.iinc 3 1, 3) := by decide +kernel
theorem dX5_sum_30 : decode cX5_sum 30 = .ok (.goto (-26), 3) := by decide +kernel
theorem dX5_sum_33 : decode cX5_sum 33 = .ok (.iload_n 2, 1) := by decide +kernel
theorem dX5_sum_34 : decode cX5_sum 34 = .ok (.ireturn, 1) := by decide +kernel
theorem dX5_mean_0 : decode cX5_mean 0 = .ok (.iload_n 1, 1) := by decide +kernel
theorem dX5_mean_1 : decode cX5_mean 1 = .ok (.iconst 0, 1) := by decide +kernel
theorem dX5_mean_2 : decode cX5_mean 2 = .ok (.iconst 1, 1) := by decide +kernel
theorem dX5_mean_3 : decode cX5_mean 3 = .ok (.invokestatic 46, 3) := by decide +kernel
theorem dX5_mean_6 : decode cX5_mean 6 = .ok (.ifCond .eq 23, 3) := by decide +kernel
theorem dX5_mean_9 : decode cX5_mean 9 = .ok (.aload_n 0, 1) := by decide +kernel
theorem dX5_mean_10 : decode cX5_mean 10 = .ok (.iconst 5, 1) := by decide +kernel
theorem dX5_mean_11 : decode cX5_mean 11 = .ok (.invokevirtual 197, 3) := by decide +kernel
theorem dX5_mean_14 : decode cX5_mean 14 = .ok (.i2l, 1) := by decide +kernel
theorem dX5_mean_15 : decode cX5_mean 15 = .ok (.aload_n 0, 1) := by decide +kernel
theorem dX5_mean_16 : decode cX5_mean 16 = .ok (.getfield 9, 3) := by decide +kernel
theorem dX5_mean_19 : decode cX5_mean 19 = .ok (.iconst 0, 1) := by decide +kernel
theorem dX5_mean_20 : decode cX5_mean 20 = .ok (.iaload, 1) := by decide +kernel
theorem dX5_mean_21 : decode cX5_mean 21 = .ok (.i2l, 1) := by decide +kernel
theorem dX5_mean_22 : decode cX5_mean 22 = .ok (.iload_n 1, 1) := by decide +kernel
theorem dX5_mean_23 : decode cX5_mean 23 = .ok (.invokestatic 193, 3) := by decide +kernel
theorem dX5_mean_26 : decode cX5_mean 26 = .ok (.goto 9, 3) := by decide +kernel
theorem dX5_mean_29 : decode cX5_mean 29 = .ok (.aload_n 0, 1) := by decide +kernel
theorem dX5_mean_30 : decode cX5_mean 30 = .ok (.bipush (-2), 2) := by decide +kernel
theorem dX5_mean_32 : decode cX5_mean 32 = .ok (.invokevirtual 189, 3) := by decide +kernel
theorem dX5_mean_35 : decode cX5_mean 35 = .ok (.lreturn, 1) := by decide +kernel
theorem dX5_whatWanted_0 : decode cX5_whatWanted 0 = .ok (.aload_n 0, 1) := by decide +kernel
theorem dX5_whatWanted_1 : decode cX5_whatWanted 1 = .ok (.iload_n 1, 1) := by decide +kernel
theorem dX5_whatWanted_2 : decode cX5_whatWanted 2 = .ok (.invokevirtual 118, 3) := by decide +kernel
theorem dX5_whatWanted_5 : decode cX5_whatWanted 5 = .ok (.ifCond .ne 9, 3) := by decide +kernel
theorem dX5_whatWanted_8 : decode cX5_whatWanted 8 = .ok (.aload_n 0, 1) := by decide +kernel
theorem dX5_whatWanted_9 : decode cX5_whatWanted 9 = .ok (.iconst (-1), 1) := by decide +kernel
theorem dX5_whatWanted_10 : decode cX5_whatWanted 10 = .ok (.invokevirtual 42, 3) := by decide +kernel
theorem dX5_whatWanted_13 : decode cX5_whatWanted 13 = .ok (.ireturn, 1) := by decide +kernel
theorem dX5_whatWanted_14 : decode cX5_whatWanted 14 = .ok (.iload_n 2, 1) := by decide +kernel
theorem dX5_whatWanted_15 : decode cX5_whatWanted 15 = .ok (.iconst 0, 1) := by decide +kernel
theorem dX5_whatWanted_16 : decode cX5_whatWanted 16 = .ok (.iconst 1, 1) := by decide +kernel
theorem dX5_whatWanted_17 : decode cX5_whatWanted 17 = .ok (.invokestatic 46, 3) := by decide +kernel
theorem dX5_whatWanted_20 : decode cX5_whatWanted 20 = .ok (.ifCond .ne 10, 3) := by decide +kernel
theorem dX5_whatWanted_23 : decode cX5_whatWanted 23 = .ok (.aload_n 0, 1) := by decide +kernel
theorem dX5_whatWanted_24 : decode cX5_whatWanted 24 = .ok (.bipush (-2), 2) := by decide +kernel
theorem dX5_whatWanted_26 : decode cX5_whatWanted 26 = .ok (.invokevirtual 42, 3) := by decide +kernel
theorem dX5_whatWanted_29 : decode cX5_whatWanted 29 = .ok (.ireturn, 1) := by decide +kernel
theorem dX5_whatWanted_30 : decode cX5_whatWanted 30 = .ok (.iconst 0, 1) := by decide +kernel
theorem dX5_whatWanted_31 : decode cX5_whatWanted 31 = .ok (.istore_n 3, 1) := by decide +kernel
theorem dX5_whatWanted_32 : decode cX5_whatWanted 32 = .ok (.iconst 0, 1) := by decide +kernel
theorem dX5_whatWanted_33 : decode cX5_whatWanted 33 = .ok (.istore 4, 2) := by decide +kernel
theorem dX5_whatWanted_35 : decode cX5_whatWanted 35 = .ok (.iload 4, 2) := by decide +kernel
theorem dX5_whatWanted_37 : decode cX5_whatWanted 37 = .ok (.iload_n 2, 1) := by decide +kernel
theorem dX5_whatWanted_38 : decode cX5_whatWanted 38 = .ok (.ifCond .ne 8, 3) := by decide +kernel
theorem dX5_whatWanted_41 : decode cX5_whatWanted 41 = .ok (.bipush 8, 2) := by decide +kernel
theorem dX5_whatWanted_43 : decode cX5_whatWanted 43 = .ok (.goto 5, 3) := by decide +kernel
theorem dX5_whatWanted_46 : decode cX5_whatWanted 46 = .ok (.bipush 6, 2) := by decide +kernel
theorem dX5_whatWanted_48 : decode cX5_whatWanted 48 = .ok (.if_icmp .ge 110, 3) := by decide +kernel
theorem dX5_whatWanted_51 : decode cX5_whatWanted 51 = .ok (.iconst 1, 1) := by decide +kernel
theorem dX5_whatWanted_52 : decode cX5_whatWanted 52 = .ok (.istore 5, 2) := by decide +kernel
theorem dX5_whatWanted_54 : decode cX5_whatWanted 54 = .ok (.aload_n 0, 1) := by decide +kernel
theorem dX5_whatWanted_55 : decode cX5_whatWanted 55 = .ok (.iconst 0, 1) := by decide +kernel
theorem dX5_whatWanted_56 : decode cX5_whatWanted 56 = .ok (.invokevirtual 148, 3) := by decide +kernel
theorem dX5_whatWanted_59 : decode cX5_whatWanted 59 = .ok (.aload_n 0, 1) := by decide +kernel
theorem dX5_whatWanted_60 : decode cX5_whatWanted 60 = .ok (.getfield 13, 3) := by decide +kernel
theorem dX5_whatWanted_63 : decode cX5_whatWanted 63 = .ok (.iload_n 1, 1) := by decide +kernel
theorem dX5_whatWanted_64 : decode cX5_whatWanted 64 = .ok (.iload_n 2, 1) := by decide +kernel
theorem dX5_whatWanted_65 : decode cX5_whatWanted 65 = .ok (.ifCond .ne 7, 3) := by decide +kernel
theorem dX5_whatWanted_68 : decode cX5_whatWanted 68 = .ok (.iconst 2, 1) := by decide +kernel
theorem dX5_whatWanted_69 : decode cX5_whatWanted 69 = .ok (.goto 4, 3) := by decide +kernel
theorem dX5_whatWanted_72 : decode cX5_whatWanted 72 = .ok (.iconst 0, 1) := by decide +kernel
theorem dX5_whatWanted_73 : decode cX5_whatWanted 73 = .ok (.invokestatic 58, 3) := by decide +kernel
theorem dX5_whatWanted_76 : decode cX5_whatWanted 76 = .ok (.iload 4, 2) := by decide +kernel
theorem dX5_whatWanted_78 : decode cX5_whatWanted 78 = .ok (.iastore, 1) := by decide +kernel
theorem dX5_whatWanted_79 : decode cX5_whatWanted 79 = .ok (.iconst 0, 1) := by decide +kernel
theorem dX5_whatWanted_80 : decode cX5_whatWanted 80 = .ok (.istore 6, 2) := by decide +kernel
theorem dX5_whatWanted_82 : decode cX5_whatWanted 82 = .ok (.iload 6, 2) := by decide +kernel
theorem dX5_whatWanted_84 : decode cX5_whatWanted 84 = .ok (.aload_n 0, 1) := by decide +kernel
theorem dX5_whatWanted_85 : decode cX5_whatWanted 85 = .ok (.getfield 200, 3) := by decide +kernel
theorem dX5_whatWanted_88 : decode cX5_whatWanted 88 = .ok (.if_icmp .ge 48, 3) := by decide +kernel
theorem dX5_whatWanted_91 : decode cX5_whatWanted 91 = .ok (.iload 5, 2) := by decide +kernel
theorem dX5_whatWanted_93 : decode cX5_whatWanted 93 = .ok (.aload_n 0, 1) := by decide +kernel
theorem dX5_whatWanted_94 : decode cX5_whatWanted 94 = .ok (.getfield 13, 3) := by decide +kernel
theorem dX5_whatWanted_97 : decode cX5_whatWanted 97 = .ok (.iload_n 1, 1) := by decide +kernel
theorem dX5_whatWanted_98 : decode cX5_whatWanted 98 = .ok (.iconst 4, 1) := by decide +kernel
theorem dX5_whatWanted_99 : decode cX5_whatWanted 99 = .ok (.invokestatic 58, 3) := by decide +kernel
theorem dX5_whatWanted_102 : decode cX5_whatWanted 102 = .ok (.iaload, 1) := by decide +kernel
theorem dX5_whatWanted_103 : decode cX5_whatWanted 103 = .ok (.aload_n 0, 1) := by decide +kernel
theorem dX5_whatWanted_104 : decode cX5_whatWanted 104 = .ok (.getfield 28, 3) := by decide +kernel
theorem dX5_whatWanted_107 : decode cX5_whatWanted 107 = .ok (.iload 6, 2) := by decide +kernel
theorem dX5_whatWanted_109 : decode cX5_whatWanted 109 = .ok (.iaload, 1) := by decide +kernel
theorem dX5_whatWanted_110 : decode cX5_whatWanted 110 = .ok (.if_icmp .ne 7, 3) := by decide +kernel
theorem dX5_whatWanted_113 : decode cX5_whatWanted 113 = .ok (.iconst 1, 1) := by decide +kernel
theorem dX5_whatWanted_114 : decode cX5_whatWanted 114 = .ok (.goto 4, 3) := by decide +kernel
theorem dX5_whatWanted_117 : decode cX5_whatWanted 117 = .ok (.iconst 0, 1) := by decide +kernel
theorem dX5_whatWanted_118 : decode cX5_whatWanted 118 = .ok (.iand, 1) := by decide +kernel
theorem dX5_whatWanted_119 : decode cX5_whatWanted 119 = .ok (.istore 5, 2) := by decide +kernel
theorem dX5_whatWanted_121 : decode cX5_whatWanted 121 = .ok (.aload_n 0, 1) := by decide +kernel
theorem dX5_whatWanted_122 : decode cX5_whatWanted 122 = .ok (.aload_n 0, 1) := by decide +kernel
theorem dX5_whatWanted_123 : decode cX5_whatWanted 123 = .ok (.getfield 13, 3) := by decide +kernel
theorem dX5_whatWanted_126 : decode cX5_whatWanted 126 = .ok (.iconst 0, 1) := by decide +kernel
theorem dX5_whatWanted_127 : decode cX5_whatWanted 127 = .ok (.invokevirtual 76, 3) := by decide +kernel
theorem dX5_whatWanted_130 : decode cX5_whatWanted 130 = .ok (.iinc 6 1, 3) := by decide +kernel
theorem dX5_whatWanted_133 : decode cX5_whatWanted 133 = .ok (.goto (-51), 3) := by decide +kernel
theorem dX5_whatWanted_136 : decode cX5_whatWanted 136 = .ok (.iload_n 3, 1) := by decide +kernel
theorem dX5_whatWanted_137 : decode cX5_whatWanted 137 = .ok (.iload 5, 2) := by decide +kernel
theorem dX5_whatWanted_139 : decode cX5_whatWanted 139 = .ok (.ifCond .eq 10, 3) := by decide +kernel
theorem dX5_whatWanted_142 : decode cX5_whatWanted 142 = .ok (.iconst 1, 1) := by decide +kernel
theorem dX5_whatWanted_143 : decode cX5_whatWanted 143 = .ok (.iload 4, 2) := by decide +kernel
theorem dX5_whatWanted_145 : decode cX5_whatWanted 145 = .ok (.ishl, 1) := by decide +kernel
theorem dX5_whatWanted_146 : decode cX5_whatWanted 146 = .ok (.goto 4, 3) := by decide +kernel
theorem dX5_whatWanted_149 : decode cX5_whatWanted 149 = .ok (.iconst 0, 1) := by decide +kernel
theorem dX5_whatWanted_150 : decode cX5_whatWanted 150 = .ok (.ior, 1) := by decide +kernel
theorem dX5_whatWanted_151 : decode cX5_whatWanted 151 = .ok (.istore_n 3, 1) := by decide +kernel
theorem dX5_whatWanted_152 : decode cX5_whatWanted 152 = .ok (.iinc 4 1, 3) := by decide +kernel
theorem dX5_whatWanted_155 : decode cX5_whatWanted 155 = .ok (.goto (-120), 3) := by decide +kernel
theorem dX5_whatWanted_158 : decode cX5_whatWanted 158 = .ok (.iload_n 3, 1) := by decide +kernel
theorem dX5_whatWanted_159 : decode cX5_whatWanted 159 = .ok (.ireturn, 1) := by decide +kernel
theorem dX5_row_0 : decode cX5_row 0 = .ok (.iload_n 1, 1) := by decide +kernel
theorem dX5_row_1 : decode cX5_row 1 = .ok (.iconst 0, 1) := by decide +kernel
theorem dX5_row_2 : decode cX5_row 2 = .ok (.bipush 99, 2) := by decide +kernel
theorem dX5_row_4 : decode cX5_row 4 = .ok (.invokestatic 138, 3) := by decide +kernel
theorem dX5_row_7 : decode cX5_row 7 = .ok (.istore_n 2, 1) := by decide +kernel
theorem dX5_row_8 : decode cX5_row 8 = .ok (.iload_n 2, 1) := by decide +kernel
theorem dX5_row_9 : decode cX5_row 9 = .ok (.ifCond .ne 15, 3) := by decide +kernel
theorem dX5_row_12 : decode cX5_row 12 = .ok (.aload_n 0, 1) := by decide +kernel
theorem dX5_row_13 : decode cX5_row 13 = .ok (.getfield 200, 3) := by decide +kernel
theorem dX5_row_16 : decode cX5_row 16 = .ok (.bipush 16, 2) := by decide +kernel
theorem dX5_row_18 : decode cX5_row 18 = .ok (.if_icmp .ne 6, 3) := by decide +kernel
theorem dX5_row_21 : decode cX5_row 21 = .ok (.bipush (-6), 2) := by decide +kernel
theorem dX5_row_23 : decode cX5_row 23 = .ok (.istore_n 2, 1) := by decide +kernel
theorem dX5_row_24 : decode cX5_row 24 = .ok (.iload_n 2, 1) := by decide +kernel
theorem dX5_row_25 : decode cX5_row 25 = .ok (.ifCond .eq 9, 3) := by decide +kernel
theorem dX5_row_28 : decode cX5_row 28 = .ok (.aload_n 0, 1) := by decide +kernel
theorem dX5_row_29 : decode cX5_row 29 = .ok (.iload_n 2, 1) := by decide +kernel
theorem dX5_row_30 : decode cX5_row 30 = .ok (.invokevirtual 42, 3) := by decide +kernel
theorem dX5_row_33 : decode cX5_row 33 = .ok (.ireturn, 1) := by decide +kernel
theorem dX5_row_34 : decode cX5_row 34 = .ok (.aload_n 0, 1) := by decide +kernel
theorem dX5_row_35 : decode cX5_row 35 = .ok (.getfield 28, 3) := by decide +kernel
theorem dX5_row_38 : decode cX5_row 38 = .ok (.aload_n 0, 1) := by decide +kernel
theorem dX5_row_39 : decode cX5_row 39 = .ok (.getfield 200, 3) := by decide +kernel
theorem dX5_row_42 : decode cX5_row 42 = .ok (.iload_n 1, 1) := by decide +kernel
theorem dX5_row_43 : decode cX5_row 43 = .ok (.iastore, 1) := by decide +kernel
theorem dX5_row_44 : decode cX5_row 44 = .ok (.aload_n 0, 1) := by decide +kernel
theorem dX5_row_45 : decode cX5_row 45 = .ok (.dup, 1) := by decide +kernel
theorem dX5_row_46 : decode cX5_row 46 = .ok (.getfield 200, 3) := by decide +kernel
theorem dX5_row_49 : decode cX5_row 49 = .ok (.iconst 1, 1) := by decide +kernel
theorem dX5_row_50 : decode cX5_row 50 = .ok (.iadd, 1) := by decide +kernel
theorem dX5_row_51 : decode cX5_row 51 = .ok (.putfield 200, 3) := by decide +kernel
theorem dX5_row_54 : decode cX5_row 54 = .ok (.aload_n 0, 1) := by decide +kernel
theorem dX5_row_55 : decode cX5_row 55 = .ok (.getfield 200, 3) := by decide +kernel
theorem dX5_row_58 : decode cX5_row 58 = .ok (.ireturn, 1) := by decide +kernel
theorem dX5_judge_0 : decode cX5_judge 0 = .ok (.aload_n 0, 1) := by decide +kernel
theorem dX5_judge_1 : decode cX5_judge 1 = .ok (.getfield 200, 3) := by decide +kernel
theorem dX5_judge_4 : decode cX5_judge 4 = .ok (.istore_n 1, 1) := by decide +kernel
theorem dX5_judge_5 : decode cX5_judge 5 = .ok (.aload_n 0, 1) := by decide +kernel
theorem dX5_judge_6 : decode cX5_judge 6 = .ok (.iconst 0, 1) := by decide +kernel
theorem dX5_judge_7 : decode cX5_judge 7 = .ok (.putfield 200, 3) := by decide +kernel
theorem dX5_judge_10 : decode cX5_judge 10 = .ok (.iconst 0, 1) := by decide +kernel
theorem dX5_judge_11 : decode cX5_judge 11 = .ok (.istore_n 2, 1) := by decide +kernel
theorem dX5_judge_12 : decode cX5_judge 12 = .ok (.iload_n 2, 1) := by decide +kernel
theorem dX5_judge_13 : decode cX5_judge 13 = .ok (.iload_n 1, 1) := by decide +kernel
theorem dX5_judge_14 : decode cX5_judge 14 = .ok (.if_icmp .ge 38, 3) := by decide +kernel
theorem dX5_judge_17 : decode cX5_judge 17 = .ok (.aload_n 0, 1) := by decide +kernel
theorem dX5_judge_18 : decode cX5_judge 18 = .ok (.iload_n 2, 1) := by decide +kernel
theorem dX5_judge_19 : decode cX5_judge 19 = .ok (.invokevirtual 118, 3) := by decide +kernel
theorem dX5_judge_22 : decode cX5_judge 22 = .ok (.ifCond .eq 22, 3) := by decide +kernel
theorem dX5_judge_25 : decode cX5_judge 25 = .ok (.aload_n 0, 1) := by decide +kernel
theorem dX5_judge_26 : decode cX5_judge 26 = .ok (.getfield 9, 3) := by decide +kernel
theorem dX5_judge_29 : decode cX5_judge 29 = .ok (.iload_n 2, 1) := by decide +kernel
theorem dX5_judge_30 : decode cX5_judge 30 = .ok (.iconst 4, 1) := by decide +kernel
theorem dX5_judge_31 : decode cX5_judge 31 = .ok (.invokestatic 58, 3) := by decide +kernel
theorem dX5_judge_34 : decode cX5_judge 34 = .ok (.iaload, 1) := by decide +kernel
theorem dX5_judge_35 : decode cX5_judge 35 = .ok (.aload_n 0, 1) := by decide +kernel
theorem dX5_judge_36 : decode cX5_judge 36 = .ok (.getfield 28, 3) := by decide +kernel
theorem dX5_judge_39 : decode cX5_judge 39 = .ok (.iload_n 2, 1) := by decide +kernel
theorem dX5_judge_40 : decode cX5_judge 40 = .ok (.iaload, 1) := by decide +kernel
theorem dX5_judge_41 : decode cX5_judge 41 = .ok (.if_icmp .eq 5, 3) := by decide +kernel
theorem dX5_judge_44 : decode cX5_judge 44 = .ok (.iload_n 2, 1) := by decide +kernel
theorem dX5_judge_45 : decode cX5_judge 45 = .ok (.ireturn, 1) := by decide +kernel
theorem dX5_judge_46 : decode cX5_judge 46 = .ok (.iinc 2 1, 3) := by decide +kernel
theorem dX5_judge_49 : decode cX5_judge 49 = .ok (.goto (-37), 3) := by decide +kernel
theorem dX5_judge_52 : decode cX5_judge 52 = .ok (.bipush (-9), 2) := by decide +kernel
theorem dX5_judge_54 : decode cX5_judge 54 = .ok (.ireturn, 1) := by decide +kernel
theorem dX5_clear_0 : decode cX5_clear 0 = .ok (.aload_n 0, 1) := by decide +kernel
theorem dX5_clear_1 : decode cX5_clear 1 = .ok (.getfield 200, 3) := by decide +kernel
theorem dX5_clear_4 : decode cX5_clear 4 = .ok (.istore_n 1, 1) := by decide +kernel
theorem dX5_clear_5 : decode cX5_clear 5 = .ok (.aload_n 0, 1) := by decide +kernel
theorem dX5_clear_6 : decode cX5_clear 6 = .ok (.iconst 0, 1) := by decide +kernel
theorem dX5_clear_7 : decode cX5_clear 7 = .ok (.putfield 200, 3) := by decide +kernel
theorem dX5_clear_10 : decode cX5_clear 10 = .ok (.iload_n 1, 1) := by decide +kernel
theorem dX5_clear_11 : decode cX5_clear 11 = .ok (.ireturn, 1) := by decide +kernel
theorem dX5_drawn_0 : decode cX5_drawn 0 = .ok (.aload_n 0, 1) := by decide +kernel
theorem dX5_drawn_1 : decode cX5_drawn 1 = .ok (.aload_n 0, 1) := by decide +kernel
theorem dX5_drawn_2 : decode cX5_drawn 2 = .ok (.getfield 203, 3) := by decide +kernel
theorem dX5_drawn_5 : decode cX5_drawn 5 = .ok (.ldc 206, 2) := by decide +kernel
theorem dX5_drawn_7 : decode cX5_drawn 7 = .ok (.imul, 1) := by decide +kernel
theorem dX5_drawn_8 : decode cX5_drawn 8 = .ok (.ldc 207, 2) := by decide +kernel
theorem dX5_drawn_10 : decode cX5_drawn 10 = .ok (.iadd, 1) := by decide +kernel
theorem dX5_drawn_11 : decode cX5_drawn 11 = .ok (.putfield 203, 3) := by decide +kernel
theorem dX5_drawn_14 : decode cX5_drawn 14 = .ok (.aload_n 0, 1) := by decide +kernel
theorem dX5_drawn_15 : decode cX5_drawn 15 = .ok (.getfield 203, 3) := by decide +kernel
theorem dX5_drawn_18 : decode cX5_drawn 18 = .ok (.ldc 208, 2) := by decide +kernel
theorem dX5_drawn_20 : decode cX5_drawn 20 = .ok (.iand, 1) := by decide +kernel
theorem dX5_drawn_21 : decode cX5_drawn 21 = .ok (.sipush 256, 3) := by decide +kernel
theorem dX5_drawn_24 : decode cX5_drawn 24 = .ok (.idiv, 1) := by decide +kernel
theorem dX5_drawn_25 : decode cX5_drawn 25 = .ok (.iload_n 1, 1) := by decide +kernel
theorem dX5_drawn_26 : decode cX5_drawn 26 = .ok (.irem, 1) := by decide +kernel
theorem dX5_drawn_27 : decode cX5_drawn 27 = .ok (.ireturn, 1) := by decide +kernel
theorem dX5_lots_0 : decode cX5_lots 0 = .ok (.iload_n 1, 1) := by decide +kernel
theorem dX5_lots_1 : decode cX5_lots 1 = .ok (.iconst 1, 1) := by decide +kernel
theorem dX5_lots_2 : decode cX5_lots 2 = .ok (.if_icmp .ge 10, 3) := by decide +kernel
theorem dX5_lots_5 : decode cX5_lots 5 = .ok (.aload_n 0, 1) := by decide +kernel
theorem dX5_lots_6 : decode cX5_lots 6 = .ok (.bipush (-4), 2) := by decide +kernel
theorem dX5_lots_8 : decode cX5_lots 8 = .ok (.invokevirtual 42, 3) := by decide +kernel
theorem dX5_lots_11 : decode cX5_lots 11 = .ok (.ireturn, 1) := by decide +kernel
theorem dX5_lots_12 : decode cX5_lots 12 = .ok (.iload_n 1, 1) := by decide +kernel
theorem dX5_lots_13 : decode cX5_lots 13 = .ok (.bipush 20, 2) := by decide +kernel
theorem dX5_lots_15 : decode cX5_lots 15 = .ok (.if_icmp .le 10, 3) := by decide +kernel
theorem dX5_lots_18 : decode cX5_lots 18 = .ok (.aload_n 0, 1) := by decide +kernel
theorem dX5_lots_19 : decode cX5_lots 19 = .ok (.bipush (-6), 2) := by decide +kernel
theorem dX5_lots_21 : decode cX5_lots 21 = .ok (.invokevirtual 42, 3) := by decide +kernel
theorem dX5_lots_24 : decode cX5_lots 24 = .ok (.ireturn, 1) := by decide +kernel
theorem dX5_lots_25 : decode cX5_lots 25 = .ok (.iload_n 3, 1) := by decide +kernel
theorem dX5_lots_26 : decode cX5_lots 26 = .ok (.iconst 0, 1) := by decide +kernel
theorem dX5_lots_27 : decode cX5_lots 27 = .ok (.iconst 1, 1) := by decide +kernel
theorem dX5_lots_28 : decode cX5_lots 28 = .ok (.invokestatic 46, 3) := by decide +kernel
theorem dX5_lots_31 : decode cX5_lots 31 = .ok (.ifCond .ne 10, 3) := by decide +kernel
theorem dX5_lots_34 : decode cX5_lots 34 = .ok (.aload_n 0, 1) := by decide +kernel
theorem dX5_lots_35 : decode cX5_lots 35 = .ok (.bipush (-2), 2) := by decide +kernel
theorem dX5_lots_37 : decode cX5_lots 37 = .ok (.invokevirtual 42, 3) := by decide +kernel
theorem dX5_lots_40 : decode cX5_lots 40 = .ok (.ireturn, 1) := by decide +kernel
theorem dX5_lots_41 : decode cX5_lots 41 = .ok (.aload_n 0, 1) := by decide +kernel
theorem dX5_lots_42 : decode cX5_lots 42 = .ok (.iload_n 2, 1) := by decide +kernel
theorem dX5_lots_43 : decode cX5_lots 43 = .ok (.putfield 203, 3) := by decide +kernel
theorem dX5_lots_46 : decode cX5_lots 46 = .ok (.iconst 0, 1) := by decide +kernel
theorem dX5_lots_47 : decode cX5_lots 47 = .ok (.istore 4, 2) := by decide +kernel
theorem dX5_lots_49 : decode cX5_lots 49 = .ok (.iconst 0, 1) := by decide +kernel
theorem dX5_lots_50 : decode cX5_lots 50 = .ok (.istore 5, 2) := by decide +kernel
theorem dX5_lots_52 : decode cX5_lots 52 = .ok (.iload 5, 2) := by decide +kernel
theorem dX5_lots_54 : decode cX5_lots 54 = .ok (.iload_n 1, 1) := by decide +kernel
theorem dX5_lots_55 : decode cX5_lots 55 = .ok (.if_icmp .ge 109, 3) := by decide +kernel
theorem dX5_lots_58 : decode cX5_lots 58 = .ok (.aload_n 0, 1) := by decide +kernel
theorem dX5_lots_59 : decode cX5_lots 59 = .ok (.getfield 9, 3) := by decide +kernel
theorem dX5_lots_62 : decode cX5_lots 62 = .ok (.aload_n 0, 1) := by decide +kernel
theorem dX5_lots_63 : decode cX5_lots 63 = .ok (.getfield 13, 3) := by decide +kernel
theorem dX5_lots_66 : decode cX5_lots 66 = .ok (.invokestatic 127, 3) := by decide +kernel
theorem dX5_lots_69 : decode cX5_lots 69 = .ok (.iconst 0, 1) := by decide +kernel
theorem dX5_lots_70 : decode cX5_lots 70 = .ok (.istore 6, 2) := by decide +kernel
theorem dX5_lots_72 : decode cX5_lots 72 = .ok (.iload 6, 2) := by decide +kernel
theorem dX5_lots_74 : decode cX5_lots 74 = .ok (.aload_n 0, 1) := by decide +kernel
theorem dX5_lots_75 : decode cX5_lots 75 = .ok (.getfield 9, 3) := by decide +kernel
theorem dX5_lots_78 : decode cX5_lots 78 = .ok (.iconst 0, 1) := by decide +kernel
theorem dX5_lots_79 : decode cX5_lots 79 = .ok (.iaload, 1) := by decide +kernel
theorem dX5_lots_80 : decode cX5_lots 80 = .ok (.if_icmp .ge 42, 3) := by decide +kernel
theorem dX5_lots_83 : decode cX5_lots 83 = .ok (.aload_n 0, 1) := by decide +kernel
theorem dX5_lots_84 : decode cX5_lots 84 = .ok (.getfield 13, 3) := by decide +kernel
theorem dX5_lots_87 : decode cX5_lots 87 = .ok (.iload 6, 2) := by decide +kernel
theorem dX5_lots_89 : decode cX5_lots 89 = .ok (.iconst 4, 1) := by decide +kernel
theorem dX5_lots_90 : decode cX5_lots 90 = .ok (.invokestatic 58, 3) := by decide +kernel
theorem dX5_lots_93 : decode cX5_lots 93 = .ok (.aload_n 0, 1) := by decide +kernel
theorem dX5_lots_94 : decode cX5_lots 94 = .ok (.bipush 8, 2) := by decide +kernel
theorem dX5_lots_96 : decode cX5_lots 96 = .ok (.invokevirtual 209, 3) := by decide +kernel
theorem dX5_lots_99 : decode cX5_lots 99 = .ok (.iastore, 1) := by decide +kernel
theorem dX5_lots_100 : decode cX5_lots 100 = .ok (.aload_n 0, 1) := by decide +kernel
theorem dX5_lots_101 : decode cX5_lots 101 = .ok (.getfield 13, 3) := by decide +kernel
theorem dX5_lots_104 : decode cX5_lots 104 = .ok (.iload 6, 2) := by decide +kernel
theorem dX5_lots_106 : decode cX5_lots 106 = .ok (.iconst 5, 1) := by decide +kernel
theorem dX5_lots_107 : decode cX5_lots 107 = .ok (.invokestatic 58, 3) := by decide +kernel
theorem dX5_lots_110 : decode cX5_lots 110 = .ok (.aload_n 0, 1) := by decide +kernel
theorem dX5_lots_111 : decode cX5_lots 111 = .ok (.iconst 5, 1) := by decide +kernel
theorem dX5_lots_112 : decode cX5_lots 112 = .ok (.invokevirtual 209, 3) := by decide +kernel
theorem dX5_lots_115 : decode cX5_lots 115 = .ok (.iastore, 1) := by decide +kernel
theorem dX5_lots_116 : decode cX5_lots 116 = .ok (.iinc 6 1, 3) := by decide +kernel
theorem dX5_lots_119 : decode cX5_lots 119 = .ok (.goto (-47), 3) := by decide +kernel
theorem dX5_lots_122 : decode cX5_lots 122 = .ok (.aload_n 0, 1) := by decide +kernel
theorem dX5_lots_123 : decode cX5_lots 123 = .ok (.aload_n 0, 1) := by decide +kernel
theorem dX5_lots_124 : decode cX5_lots 124 = .ok (.getfield 13, 3) := by decide +kernel
theorem dX5_lots_127 : decode cX5_lots 127 = .ok (.bipush 10, 2) := by decide +kernel
theorem dX5_lots_129 : decode cX5_lots 129 = .ok (.invokevirtual 121, 3) := by decide +kernel
theorem dX5_lots_132 : decode cX5_lots 132 = .ok (.iload 4, 2) := by decide +kernel
theorem dX5_lots_134 : decode cX5_lots 134 = .ok (.iload_n 3, 1) := by decide +kernel
theorem dX5_lots_135 : decode cX5_lots 135 = .ok (.ifCond .ne 10, 3) := by decide +kernel
theorem dX5_lots_138 : decode cX5_lots 138 = .ok (.aload_n 0, 1) := by decide +kernel
theorem dX5_lots_139 : decode cX5_lots 139 = .ok (.invokevirtual 178, 3) := by decide +kernel
theorem dX5_lots_142 : decode cX5_lots 142 = .ok (.goto 13, 3) := by decide +kernel
theorem dX5_lots_145 : decode cX5_lots 145 = .ok (.aload_n 0, 1) := by decide +kernel
theorem dX5_lots_146 : decode cX5_lots 146 = .ok (.getfield 13, 3) := by decide +kernel
theorem dX5_lots_149 : decode cX5_lots 149 = .ok (.invokestatic 141, 3) := by decide +kernel
theorem dX5_lots_152 : decode cX5_lots 152 = .ok (.invokestatic 145, 3) := by decide +kernel
theorem dX5_lots_155 : decode cX5_lots 155 = .ok (.iadd, 1) := by decide +kernel
theorem dX5_lots_156 : decode cX5_lots 156 = .ok (.istore 4, 2) := by decide +kernel
theorem dX5_lots_158 : decode cX5_lots 158 = .ok (.iinc 5 1, 3) := by decide +kernel
theorem dX5_lots_161 : decode cX5_lots 161 = .ok (.goto (-109), 3) := by decide +kernel
theorem dX5_lots_164 : decode cX5_lots 164 = .ok (.iload 4, 2) := by decide +kernel
theorem dX5_lots_166 : decode cX5_lots 166 = .ok (.ireturn, 1) := by decide +kernel
theorem dX5_image_0 : decode cX5_image 0 = .ok (.aload_n 0, 1) := by decide +kernel
theorem dX5_image_1 : decode cX5_image 1 = .ok (.getfield 9, 3) := by decide +kernel
theorem dX5_image_4 : decode cX5_image 4 = .ok (.aload_n 0, 1) := by decide +kernel
theorem dX5_image_5 : decode cX5_image 5 = .ok (.getfield 16, 3) := by decide +kernel
theorem dX5_image_8 : decode cX5_image 8 = .ok (.invokestatic 127, 3) := by decide +kernel
theorem dX5_image_11 : decode cX5_image 11 = .ok (.aload_n 0, 1) := by decide +kernel
theorem dX5_image_12 : decode cX5_image 12 = .ok (.iconst 1, 1) := by decide +kernel
theorem dX5_image_13 : decode cX5_image 13 = .ok (.putfield 212, 3) := by decide +kernel
theorem dX5_image_16 : decode cX5_image 16 = .ok (.aload_n 0, 1) := by decide +kernel
theorem dX5_image_17 : decode cX5_image 17 = .ok (.getfield 9, 3) := by decide +kernel
theorem dX5_image_20 : decode cX5_image 20 = .ok (.iconst 1, 1) := by decide +kernel
theorem dX5_image_21 : decode cX5_image 21 = .ok (.iaload, 1) := by decide +kernel
theorem dX5_image_22 : decode cX5_image 22 = .ok (.ireturn, 1) := by decide +kernel
theorem dX5_on_0 : decode cX5_on 0 = .ok (.aload_n 0, 1) := by decide +kernel
theorem dX5_on_1 : decode cX5_on 1 = .ok (.getfield 212, 3) := by decide +kernel
theorem dX5_on_4 : decode cX5_on 4 = .ok (.ifCond .ne 10, 3) := by decide +kernel
theorem dX5_on_7 : decode cX5_on 7 = .ok (.aload_n 0, 1) := by decide +kernel
theorem dX5_on_8 : decode cX5_on 8 = .ok (.bipush (-3), 2) := by decide +kernel
theorem dX5_on_10 : decode cX5_on 10 = .ok (.invokevirtual 42, 3) := by decide +kernel
theorem dX5_on_13 : decode cX5_on 13 = .ok (.ireturn, 1) := by decide +kernel
theorem dX5_on_14 : decode cX5_on 14 = .ok (.aload_n 0, 1) := by decide +kernel
theorem dX5_on_15 : decode cX5_on 15 = .ok (.getfield 16, 3) := by decide +kernel
theorem dX5_on_18 : decode cX5_on 18 = .ok (.aload_n 0, 1) := by decide +kernel
theorem dX5_on_19 : decode cX5_on 19 = .ok (.getfield 9, 3) := by decide +kernel
theorem dX5_on_22 : decode cX5_on 22 = .ok (.invokestatic 127, 3) := by decide +kernel
theorem dX5_on_25 : decode cX5_on 25 = .ok (.aload_n 0, 1) := by decide +kernel
theorem dX5_on_26 : decode cX5_on 26 = .ok (.getfield 9, 3) := by decide +kernel
theorem dX5_on_29 : decode cX5_on 29 = .ok (.iconst 1, 1) := by decide +kernel
theorem dX5_on_30 : decode cX5_on 30 = .ok (.iaload, 1) := by decide +kernel
theorem dX5_on_31 : decode cX5_on 31 = .ok (.ireturn, 1) := by decide +kernel
theorem dX5_count_0 : decode cX5_count 0 = .ok (.iload_n 1, 1) := by decide +kernel
theorem dX5_count_1 : decode cX5_count 1 = .ok (.bipush 11, 2) := by decide +kernel
theorem dX5_count_3 : decode cX5_count 3 = .ok (.bipush 16, 2) := by decide +kernel
theorem dX5_count_5 : decode cX5_count 5 = .ok (.invokestatic 46, 3) := by decide +kernel
theorem dX5_count_8 : decode cX5_count 8 = .ok (.ifCond .eq 13, 3) := by decide +kernel
theorem dX5_count_11 : decode cX5_count 11 = .ok (.aload_n 0, 1) := by decide +kernel
theorem dX5_count_12 : decode cX5_count 12 = .ok (.getfield 31, 3) := by decide +kernel
theorem dX5_count_15 : decode cX5_count 15 = .ok (.iload_n 1, 1) := by decide +kernel
theorem dX5_count_16 : decode cX5_count 16 = .ok (.bipush 10, 2) := by decide +kernel
theorem dX5_count_18 : decode cX5_count 18 = .ok (.isub, 1) := by decide +kernel
theorem dX5_count_19 : decode cX5_count 19 = .ok (.iaload, 1) := by decide +kernel
theorem dX5_count_20 : decode cX5_count 20 = .ok (.ireturn, 1) := by decide +kernel
theorem dX5_count_21 : decode cX5_count 21 = .ok (.iconst 0, 1) := by decide +kernel
theorem dX5_count_22 : decode cX5_count 22 = .ok (.istore_n 2, 1) := by decide +kernel
theorem dX5_count_23 : decode cX5_count 23 = .ok (.iload_n 1, 1) := by decide +kernel
theorem dX5_count_24 : decode cX5_count 24 = .ok (.tableswitch 118 0 7 #[48, 48, 55, 87, 95, 101, 108, 113], 48) := by decide +kernel
theorem dX5_count_72 : decode cX5_count 72 = .ok (.aload_n 0, 1) := by decide +kernel
theorem dX5_count_73 : decode cX5_count 73 = .ok (.getfield 9, 3) := by decide +kernel
theorem dX5_count_76 : decode cX5_count 76 = .ok (.iload_n 1, 1) := by decide +kernel
theorem dX5_count_77 : decode cX5_count 77 = .ok (.iaload, 1) := by decide +kernel
theorem dX5_count_78 : decode cX5_count 78 = .ok (.ireturn, 1) := by decide +kernel
theorem dX5_count_79 : decode cX5_count 79 = .ok (.iconst 0, 1) := by decide +kernel
theorem dX5_count_80 : decode cX5_count 80 = .ok (.istore_n 3, 1) := by decide +kernel
theorem dX5_count_81 : decode cX5_count 81 = .ok (.iload_n 3, 1) := by decide +kernel
theorem dX5_count_82 : decode cX5_count 82 = .ok (.bipush 8, 2) := by decide +kernel
theorem dX5_count_84 : decode cX5_count 84 = .ok (.if_icmp .ge 23, 3) := by decide +kernel
theorem dX5_count_87 : decode cX5_count 87 = .ok (.iload_n 2, 1) := by decide +kernel
theorem dX5_count_88 : decode cX5_count 88 = .ok (.aload_n 0, 1) := by decide +kernel
theorem dX5_count_89 : decode cX5_count 89 = .ok (.getfield 9, 3) := by decide +kernel
theorem dX5_count_92 : decode cX5_count 92 = .ok (.iconst 2, 1) := by decide +kernel
theorem dX5_count_93 : decode cX5_count 93 = .ok (.iload_n 3, 1) := by decide +kernel
theorem dX5_count_94 : decode cX5_count 94 = .ok (.iadd, 1) := by decide +kernel
theorem dX5_count_95 : decode cX5_count 95 = .ok (.iaload, 1) := by decide +kernel
theorem dX5_count_96 : decode cX5_count 96 = .ok (.invokestatic 145, 3) := by decide +kernel
theorem dX5_count_99 : decode cX5_count 99 = .ok (.iadd, 1) := by decide +kernel
theorem dX5_count_100 : decode cX5_count 100 = .ok (.istore_n 2, 1) := by decide +kernel
theorem dX5_count_101 : decode cX5_count 101 = .ok (.iinc 3 1, 3) := by decide +kernel
theorem dX5_count_104 : decode cX5_count 104 = .ok (.goto (-23), 3) := by decide +kernel
theorem dX5_count_107 : decode cX5_count 107 = .ok (.iload_n 2, 1) := by decide +kernel
theorem dX5_count_108 : decode cX5_count 108 = .ok (.iconst 2, 1) := by decide +kernel
theorem dX5_count_109 : decode cX5_count 109 = .ok (.idiv, 1) := by decide +kernel
theorem dX5_count_110 : decode cX5_count 110 = .ok (.ireturn, 1) := by decide +kernel
theorem dX5_count_111 : decode cX5_count 111 = .ok (.aload_n 0, 1) := by decide +kernel
theorem dX5_count_112 : decode cX5_count 112 = .ok (.getfield 9, 3) := by decide +kernel
theorem dX5_count_115 : decode cX5_count 115 = .ok (.invokestatic 141, 3) := by decide +kernel
theorem dX5_count_118 : decode cX5_count 118 = .ok (.ireturn, 1) := by decide +kernel
theorem dX5_count_119 : decode cX5_count 119 = .ok (.aload_n 0, 1) := by decide +kernel
theorem dX5_count_120 : decode cX5_count 120 = .ok (.iconst 5, 1) := by decide +kernel
theorem dX5_count_121 : decode cX5_count 121 = .ok (.invokevirtual 197, 3) := by decide +kernel
theorem dX5_count_124 : decode cX5_count 124 = .ok (.ireturn, 1) := by decide +kernel
theorem dX5_count_125 : decode cX5_count 125 = .ok (.aload_n 0, 1) := by decide +kernel
theorem dX5_count_126 : decode cX5_count 126 = .ok (.bipush 6, 2) := by decide +kernel
theorem dX5_count_128 : decode cX5_count 128 = .ok (.invokevirtual 197, 3) := by decide +kernel
theorem dX5_count_131 : decode cX5_count 131 = .ok (.ireturn, 1) := by decide +kernel
theorem dX5_count_132 : decode cX5_count 132 = .ok (.aload_n 0, 1) := by decide +kernel
theorem dX5_count_133 : decode cX5_count 133 = .ok (.getfield 200, 3) := by decide +kernel
theorem dX5_count_136 : decode cX5_count 136 = .ok (.ireturn, 1) := by decide +kernel
theorem dX5_count_137 : decode cX5_count 137 = .ok (.aload_n 0, 1) := by decide +kernel
theorem dX5_count_138 : decode cX5_count 138 = .ok (.getfield 83, 3) := by decide +kernel
theorem dX5_count_141 : decode cX5_count 141 = .ok (.ireturn, 1) := by decide +kernel
theorem dX5_count_142 : decode cX5_count 142 = .ok (.bipush (-9), 2) := by decide +kernel
theorem dX5_count_144 : decode cX5_count 144 = .ok (.ireturn, 1) := by decide +kernel
end
section
theorem dL_law_0 : decode cL_law 0 = .ok (.new 7, 3) := by decide +kernel
theorem dL_law_3 : decode cL_law 3 = .ok (.dup, 1) := by decide +kernel
theorem dL_law_4 : decode cL_law 4 = .ok (.invokespecial 9, 3) := by decide +kernel
theorem dL_law_7 : decode cL_law 7 = .ok (.astore_n 1, 1) := by decide +kernel
theorem dL_law_8 : decode cL_law 8 = .ok (.new 10, 3) := by decide +kernel
theorem dL_law_11 : decode cL_law 11 = .ok (.dup, 1) := by decide +kernel
theorem dL_law_12 : decode cL_law 12 = .ok (.invokespecial 12, 3) := by decide +kernel
theorem dL_law_15 : decode cL_law 15 = .ok (.astore_n 2, 1) := by decide +kernel
theorem dL_law_16 : decode cL_law 16 = .ok (.iconst 0, 1) := by decide +kernel
theorem dL_law_17 : decode cL_law 17 = .ok (.istore_n 3, 1) := by decide +kernel
theorem dL_law_18 : decode cL_law 18 = .ok (.iload_n 3, 1) := by decide +kernel
theorem dL_law_19 : decode cL_law 19 = .ok (.aload_n 0, 1) := by decide +kernel
theorem dL_law_20 : decode cL_law 20 = .ok (.arraylength, 1) := by decide +kernel
theorem dL_law_21 : decode cL_law 21 = .ok (.bipush 6, 2) := by decide +kernel
theorem dL_law_23 : decode cL_law 23 = .ok (.isub, 1) := by decide +kernel
theorem dL_law_24 : decode cL_law 24 = .ok (.if_icmp .gt 1312, 3) := by decide +kernel
theorem dL_law_27 : decode cL_law 27 = .ok (.aload_n 0, 1) := by decide +kernel
theorem dL_law_28 : decode cL_law 28 = .ok (.iload_n 3, 1) := by decide +kernel
theorem dL_law_29 : decode cL_law 29 = .ok (.iaload, 1) := by decide +kernel
theorem dL_law_30 : decode cL_law 30 = .ok (.bipush 63, 2) := by decide +kernel
theorem dL_law_32 : decode cL_law 32 = .ok (.iand, 1) := by decide +kernel
theorem dL_law_33 : decode cL_law 33 = .ok (.tableswitch 1297 0 39 #[175, 198, 211, 244, 277, 310, 343, 366, 399, 432, 475, 498, 541, 574, 597, 620, 663, 676, 719, 752, 785, 818, 851, 864, 887, 910, 923, 946, 969, 992, 1035, 1099, 1123, 1156, 1179, 1192, 1205, 1248, 1261, 1274], 175) := by decide +kernel
theorem dL_law_208 : decode cL_law 208 = .ok (.aload_n 1, 1) := by decide +kernel
theorem dL_law_209 : decode cL_law 209 = .ok (.aload_n 0, 1) := by decide +kernel
theorem dL_law_210 : decode cL_law 210 = .ok (.iload_n 3, 1) := by decide +kernel
theorem dL_law_211 : decode cL_law 211 = .ok (.iconst 1, 1) := by decide +kernel
theorem dL_law_212 : decode cL_law 212 = .ok (.iadd, 1) := by decide +kernel
theorem dL_law_213 : decode cL_law 213 = .ok (.iaload, 1) := by decide +kernel
theorem dL_law_214 : decode cL_law 214 = .ok (.invokevirtual 13, 3) := by decide +kernel
theorem dL_law_217 : decode cL_law 217 = .ok (.aload_n 2, 1) := by decide +kernel
theorem dL_law_218 : decode cL_law 218 = .ok (.aload_n 0, 1) := by decide +kernel
theorem dL_law_219 : decode cL_law 219 = .ok (.iload_n 3, 1) := by decide +kernel
theorem dL_law_220 : decode cL_law 220 = .ok (.iconst 1, 1) := by decide +kernel
theorem dL_law_221 : decode cL_law 221 = .ok (.iadd, 1) := by decide +kernel
theorem dL_law_222 : decode cL_law 222 = .ok (.iaload, 1) := by decide +kernel
theorem dL_law_223 : decode cL_law 223 = .ok (.invokevirtual 17, 3) := by decide +kernel
theorem dL_law_226 : decode cL_law 226 = .ok (.if_icmp .eq 1104, 3) := by decide +kernel
theorem dL_law_229 : decode cL_law 229 = .ok (.iconst 0, 1) := by decide +kernel
theorem dL_law_230 : decode cL_law 230 = .ok (.ireturn, 1) := by decide +kernel
theorem dL_law_231 : decode cL_law 231 = .ok (.aload_n 1, 1) := by decide +kernel
theorem dL_law_232 : decode cL_law 232 = .ok (.invokevirtual 18, 3) := by decide +kernel
theorem dL_law_235 : decode cL_law 235 = .ok (.aload_n 2, 1) := by decide +kernel
theorem dL_law_236 : decode cL_law 236 = .ok (.invokevirtual 22, 3) := by decide +kernel
theorem dL_law_239 : decode cL_law 239 = .ok (.if_icmp .eq 1091, 3) := by decide +kernel
theorem dL_law_242 : decode cL_law 242 = .ok (.iconst 0, 1) := by decide +kernel
theorem dL_law_243 : decode cL_law 243 = .ok (.ireturn, 1) := by decide +kernel
theorem dL_law_244 : decode cL_law 244 = .ok (.aload_n 1, 1) := by decide +kernel
theorem dL_law_245 : decode cL_law 245 = .ok (.aload_n 0, 1) := by decide +kernel
theorem dL_law_246 : decode cL_law 246 = .ok (.iload_n 3, 1) := by decide +kernel
theorem dL_law_247 : decode cL_law 247 = .ok (.iconst 1, 1) := by decide +kernel
theorem dL_law_248 : decode cL_law 248 = .ok (.iadd, 1) := by decide +kernel
theorem dL_law_249 : decode cL_law 249 = .ok (.iaload, 1) := by decide +kernel
theorem dL_law_250 : decode cL_law 250 = .ok (.aload_n 0, 1) := by decide +kernel
theorem dL_law_251 : decode cL_law 251 = .ok (.iload_n 3, 1) := by decide +kernel
theorem dL_law_252 : decode cL_law 252 = .ok (.iconst 2, 1) := by decide +kernel
theorem dL_law_253 : decode cL_law 253 = .ok (.iadd, 1) := by decide +kernel
theorem dL_law_254 : decode cL_law 254 = .ok (.iaload, 1) := by decide +kernel
theorem dL_law_255 : decode cL_law 255 = .ok (.invokevirtual 23, 3) := by decide +kernel
theorem dL_law_258 : decode cL_law 258 = .ok (.aload_n 2, 1) := by decide +kernel
theorem dL_law_259 : decode cL_law 259 = .ok (.aload_n 0, 1) := by decide +kernel
theorem dL_law_260 : decode cL_law 260 = .ok (.iload_n 3, 1) := by decide +kernel
theorem dL_law_261 : decode cL_law 261 = .ok (.iconst 1, 1) := by decide +kernel
theorem dL_law_262 : decode cL_law 262 = .ok (.iadd, 1) := by decide +kernel
theorem dL_law_263 : decode cL_law 263 = .ok (.iaload, 1) := by decide +kernel
theorem dL_law_264 : decode cL_law 264 = .ok (.aload_n 0, 1) := by decide +kernel
theorem dL_law_265 : decode cL_law 265 = .ok (.iload_n 3, 1) := by decide +kernel
theorem dL_law_266 : decode cL_law 266 = .ok (.iconst 2, 1) := by decide +kernel
theorem dL_law_267 : decode cL_law 267 = .ok (.iadd, 1) := by decide +kernel
theorem dL_law_268 : decode cL_law 268 = .ok (.iaload, 1) := by decide +kernel
theorem dL_law_269 : decode cL_law 269 = .ok (.invokevirtual 27, 3) := by decide +kernel
theorem dL_law_272 : decode cL_law 272 = .ok (.if_icmp .eq 1058, 3) := by decide +kernel
theorem dL_law_275 : decode cL_law 275 = .ok (.iconst 0, 1) := by decide +kernel
theorem dL_law_276 : decode cL_law 276 = .ok (.ireturn, 1) := by decide +kernel
theorem dL_law_277 : decode cL_law 277 = .ok (.aload_n 1, 1) := by decide +kernel
theorem dL_law_278 : decode cL_law 278 = .ok (.aload_n 0, 1) := by decide +kernel
theorem dL_law_279 : decode cL_law 279 = .ok (.iload_n 3, 1) := by decide +kernel
theorem dL_law_280 : decode cL_law 280 = .ok (.iconst 1, 1) := by decide +kernel
theorem dL_law_281 : decode cL_law 281 = .ok (.iadd, 1) := by decide +kernel
theorem dL_law_282 : decode cL_law 282 = .ok (.iaload, 1) := by decide +kernel
theorem dL_law_283 : decode cL_law 283 = .ok (.aload_n 0, 1) := by decide +kernel
theorem dL_law_284 : decode cL_law 284 = .ok (.iload_n 3, 1) := by decide +kernel
theorem dL_law_285 : decode cL_law 285 = .ok (.iconst 2, 1) := by decide +kernel
theorem dL_law_286 : decode cL_law 286 = .ok (.iadd, 1) := by decide +kernel
theorem dL_law_287 : decode cL_law 287 = .ok (.iaload, 1) := by decide +kernel
theorem dL_law_288 : decode cL_law 288 = .ok (.invokevirtual 28, 3) := by decide +kernel
theorem dL_law_291 : decode cL_law 291 = .ok (.aload_n 2, 1) := by decide +kernel
theorem dL_law_292 : decode cL_law 292 = .ok (.aload_n 0, 1) := by decide +kernel
theorem dL_law_293 : decode cL_law 293 = .ok (.iload_n 3, 1) := by decide +kernel
theorem dL_law_294 : decode cL_law 294 = .ok (.iconst 1, 1) := by decide +kernel
theorem dL_law_295 : decode cL_law 295 = .ok (.iadd, 1) := by decide +kernel
theorem dL_law_296 : decode cL_law 296 = .ok (.iaload, 1) := by decide +kernel
theorem dL_law_297 : decode cL_law 297 = .ok (.aload_n 0, 1) := by decide +kernel
theorem dL_law_298 : decode cL_law 298 = .ok (.iload_n 3, 1) := by decide +kernel
theorem dL_law_299 : decode cL_law 299 = .ok (.iconst 2, 1) := by decide +kernel
theorem dL_law_300 : decode cL_law 300 = .ok (.iadd, 1) := by decide +kernel
theorem dL_law_301 : decode cL_law 301 = .ok (.iaload, 1) := by decide +kernel
theorem dL_law_302 : decode cL_law 302 = .ok (.invokevirtual 31, 3) := by decide +kernel
theorem dL_law_305 : decode cL_law 305 = .ok (.if_icmp .eq 1025, 3) := by decide +kernel
theorem dL_law_308 : decode cL_law 308 = .ok (.iconst 0, 1) := by decide +kernel
theorem dL_law_309 : decode cL_law 309 = .ok (.ireturn, 1) := by decide +kernel
theorem dL_law_310 : decode cL_law 310 = .ok (.aload_n 1, 1) := by decide +kernel
theorem dL_law_311 : decode cL_law 311 = .ok (.aload_n 0, 1) := by decide +kernel
theorem dL_law_312 : decode cL_law 312 = .ok (.iload_n 3, 1) := by decide +kernel
theorem dL_law_313 : decode cL_law 313 = .ok (.iconst 1, 1) := by decide +kernel
theorem dL_law_314 : decode cL_law 314 = .ok (.iadd, 1) := by decide +kernel
theorem dL_law_315 : decode cL_law 315 = .ok (.iaload, 1) := by decide +kernel
theorem dL_law_316 : decode cL_law 316 = .ok (.aload_n 0, 1) := by decide +kernel
theorem dL_law_317 : decode cL_law 317 = .ok (.iload_n 3, 1) := by decide +kernel
theorem dL_law_318 : decode cL_law 318 = .ok (.iconst 2, 1) := by decide +kernel
theorem dL_law_319 : decode cL_law 319 = .ok (.iadd, 1) := by decide +kernel
theorem dL_law_320 : decode cL_law 320 = .ok (.iaload, 1) := by decide +kernel
theorem dL_law_321 : decode cL_law 321 = .ok (.invokevirtual 32, 3) := by decide +kernel
theorem dL_law_324 : decode cL_law 324 = .ok (.aload_n 2, 1) := by decide +kernel
theorem dL_law_325 : decode cL_law 325 = .ok (.aload_n 0, 1) := by decide +kernel
theorem dL_law_326 : decode cL_law 326 = .ok (.iload_n 3, 1) := by decide +kernel
theorem dL_law_327 : decode cL_law 327 = .ok (.iconst 1, 1) := by decide +kernel
theorem dL_law_328 : decode cL_law 328 = .ok (.iadd, 1) := by decide +kernel
theorem dL_law_329 : decode cL_law 329 = .ok (.iaload, 1) := by decide +kernel
theorem dL_law_330 : decode cL_law 330 = .ok (.aload_n 0, 1) := by decide +kernel
theorem dL_law_331 : decode cL_law 331 = .ok (.iload_n 3, 1) := by decide +kernel
theorem dL_law_332 : decode cL_law 332 = .ok (.iconst 2, 1) := by decide +kernel
theorem dL_law_333 : decode cL_law 333 = .ok (.iadd, 1) := by decide +kernel
theorem dL_law_334 : decode cL_law 334 = .ok (.iaload, 1) := by decide +kernel
theorem dL_law_335 : decode cL_law 335 = .ok (.invokevirtual 35, 3) := by decide +kernel
theorem dL_law_338 : decode cL_law 338 = .ok (.if_icmp .eq 992, 3) := by decide +kernel
theorem dL_law_341 : decode cL_law 341 = .ok (.iconst 0, 1) := by decide +kernel
theorem dL_law_342 : decode cL_law 342 = .ok (.ireturn, 1) := by decide +kernel
theorem dL_law_343 : decode cL_law 343 = .ok (.aload_n 1, 1) := by decide +kernel
theorem dL_law_344 : decode cL_law 344 = .ok (.aload_n 0, 1) := by decide +kernel
theorem dL_law_345 : decode cL_law 345 = .ok (.iload_n 3, 1) := by decide +kernel
theorem dL_law_346 : decode cL_law 346 = .ok (.iconst 1, 1) := by decide +kernel
theorem dL_law_347 : decode cL_law 347 = .ok (.iadd, 1) := by decide +kernel
theorem dL_law_348 : decode cL_law 348 = .ok (.iaload, 1) := by decide +kernel
theorem dL_law_349 : decode cL_law 349 = .ok (.aload_n 0, 1) := by decide +kernel
theorem dL_law_350 : decode cL_law 350 = .ok (.iload_n 3, 1) := by decide +kernel
theorem dL_law_351 : decode cL_law 351 = .ok (.iconst 2, 1) := by decide +kernel
theorem dL_law_352 : decode cL_law 352 = .ok (.iadd, 1) := by decide +kernel
theorem dL_law_353 : decode cL_law 353 = .ok (.iaload, 1) := by decide +kernel
theorem dL_law_354 : decode cL_law 354 = .ok (.invokevirtual 36, 3) := by decide +kernel
theorem dL_law_357 : decode cL_law 357 = .ok (.aload_n 2, 1) := by decide +kernel
theorem dL_law_358 : decode cL_law 358 = .ok (.aload_n 0, 1) := by decide +kernel
theorem dL_law_359 : decode cL_law 359 = .ok (.iload_n 3, 1) := by decide +kernel
theorem dL_law_360 : decode cL_law 360 = .ok (.iconst 1, 1) := by decide +kernel
theorem dL_law_361 : decode cL_law 361 = .ok (.iadd, 1) := by decide +kernel
theorem dL_law_362 : decode cL_law 362 = .ok (.iaload, 1) := by decide +kernel
theorem dL_law_363 : decode cL_law 363 = .ok (.aload_n 0, 1) := by decide +kernel
theorem dL_law_364 : decode cL_law 364 = .ok (.iload_n 3, 1) := by decide +kernel
theorem dL_law_365 : decode cL_law 365 = .ok (.iconst 2, 1) := by decide +kernel
theorem dL_law_366 : decode cL_law 366 = .ok (.iadd, 1) := by decide +kernel
theorem dL_law_367 : decode cL_law 367 = .ok (.iaload, 1) := by decide +kernel
theorem dL_law_368 : decode cL_law 368 = .ok (.invokevirtual 39, 3) := by decide +kernel
theorem dL_law_371 : decode cL_law 371 = .ok (.if_icmp .eq 959, 3) := by decide +kernel
theorem dL_law_374 : decode cL_law 374 = .ok (.iconst 0, 1) := by decide +kernel
theorem dL_law_375 : decode cL_law 375 = .ok (.ireturn, 1) := by decide +kernel
theorem dL_law_376 : decode cL_law 376 = .ok (.aload_n 1, 1) := by decide +kernel
theorem dL_law_377 : decode cL_law 377 = .ok (.aload_n 0, 1) := by decide +kernel
theorem dL_law_378 : decode cL_law 378 = .ok (.iload_n 3, 1) := by decide +kernel
theorem dL_law_379 : decode cL_law 379 = .ok (.iconst 1, 1) := by decide +kernel
theorem dL_law_380 : decode cL_law 380 = .ok (.iadd, 1) := by decide +kernel
theorem dL_law_381 : decode cL_law 381 = .ok (.iaload, 1) := by decide +kernel
theorem dL_law_382 : decode cL_law 382 = .ok (.invokevirtual 40, 3) := by decide +kernel
theorem dL_law_385 : decode cL_law 385 = .ok (.aload_n 2, 1) := by decide +kernel
theorem dL_law_386 : decode cL_law 386 = .ok (.aload_n 0, 1) := by decide +kernel
theorem dL_law_387 : decode cL_law 387 = .ok (.iload_n 3, 1) := by decide +kernel
theorem dL_law_388 : decode cL_law 388 = .ok (.iconst 1, 1) := by decide +kernel
theorem dL_law_389 : decode cL_law 389 = .ok (.iadd, 1) := by decide +kernel
theorem dL_law_390 : decode cL_law 390 = .ok (.iaload, 1) := by decide +kernel
theorem dL_law_391 : decode cL_law 391 = .ok (.invokevirtual 43, 3) := by decide +kernel
theorem dL_law_394 : decode cL_law 394 = .ok (.if_icmp .eq 936, 3) := by decide +kernel
theorem dL_law_397 : decode cL_law 397 = .ok (.iconst 0, 1) := by decide +kernel
theorem dL_law_398 : decode cL_law 398 = .ok (.ireturn, 1) := by decide +kernel
theorem dL_law_399 : decode cL_law 399 = .ok (.aload_n 1, 1) := by decide +kernel
theorem dL_law_400 : decode cL_law 400 = .ok (.aload_n 0, 1) := by decide +kernel
theorem dL_law_401 : decode cL_law 401 = .ok (.iload_n 3, 1) := by decide +kernel
theorem dL_law_402 : decode cL_law 402 = .ok (.iconst 1, 1) := by decide +kernel
theorem dL_law_403 : decode cL_law 403 = .ok (.iadd, 1) := by decide +kernel
theorem dL_law_404 : decode cL_law 404 = .ok (.iaload, 1) := by decide +kernel
theorem dL_law_405 : decode cL_law 405 = .ok (.aload_n 0, 1) := by decide +kernel
theorem dL_law_406 : decode cL_law 406 = .ok (.iload_n 3, 1) := by decide +kernel
theorem dL_law_407 : decode cL_law 407 = .ok (.iconst 2, 1) := by decide +kernel
theorem dL_law_408 : decode cL_law 408 = .ok (.iadd, 1) := by decide +kernel
theorem dL_law_409 : decode cL_law 409 = .ok (.iaload, 1) := by decide +kernel
theorem dL_law_410 : decode cL_law 410 = .ok (.invokevirtual 44, 3) := by decide +kernel
theorem dL_law_413 : decode cL_law 413 = .ok (.aload_n 2, 1) := by decide +kernel
theorem dL_law_414 : decode cL_law 414 = .ok (.aload_n 0, 1) := by decide +kernel
theorem dL_law_415 : decode cL_law 415 = .ok (.iload_n 3, 1) := by decide +kernel
theorem dL_law_416 : decode cL_law 416 = .ok (.iconst 1, 1) := by decide +kernel
theorem dL_law_417 : decode cL_law 417 = .ok (.iadd, 1) := by decide +kernel
theorem dL_law_418 : decode cL_law 418 = .ok (.iaload, 1) := by decide +kernel
theorem dL_law_419 : decode cL_law 419 = .ok (.aload_n 0, 1) := by decide +kernel
theorem dL_law_420 : decode cL_law 420 = .ok (.iload_n 3, 1) := by decide +kernel
theorem dL_law_421 : decode cL_law 421 = .ok (.iconst 2, 1) := by decide +kernel
theorem dL_law_422 : decode cL_law 422 = .ok (.iadd, 1) := by decide +kernel
theorem dL_law_423 : decode cL_law 423 = .ok (.iaload, 1) := by decide +kernel
theorem dL_law_424 : decode cL_law 424 = .ok (.invokevirtual 47, 3) := by decide +kernel
theorem dL_law_427 : decode cL_law 427 = .ok (.if_icmp .eq 903, 3) := by decide +kernel
theorem dL_law_430 : decode cL_law 430 = .ok (.iconst 0, 1) := by decide +kernel
theorem dL_law_431 : decode cL_law 431 = .ok (.ireturn, 1) := by decide +kernel
theorem dL_law_432 : decode cL_law 432 = .ok (.aload_n 1, 1) := by decide +kernel
theorem dL_law_433 : decode cL_law 433 = .ok (.aload_n 0, 1) := by decide +kernel
theorem dL_law_434 : decode cL_law 434 = .ok (.iload_n 3, 1) := by decide +kernel
theorem dL_law_435 : decode cL_law 435 = .ok (.iconst 1, 1) := by decide +kernel
theorem dL_law_436 : decode cL_law 436 = .ok (.iadd, 1) := by decide +kernel
theorem dL_law_437 : decode cL_law 437 = .ok (.iaload, 1) := by decide +kernel
theorem dL_law_438 : decode cL_law 438 = .ok (.aload_n 0, 1) := by decide +kernel
theorem dL_law_439 : decode cL_law 439 = .ok (.iload_n 3, 1) := by decide +kernel
theorem dL_law_440 : decode cL_law 440 = .ok (.iconst 2, 1) := by decide +kernel
theorem dL_law_441 : decode cL_law 441 = .ok (.iadd, 1) := by decide +kernel
theorem dL_law_442 : decode cL_law 442 = .ok (.iaload, 1) := by decide +kernel
theorem dL_law_443 : decode cL_law 443 = .ok (.invokevirtual 48, 3) := by decide +kernel
theorem dL_law_446 : decode cL_law 446 = .ok (.aload_n 2, 1) := by decide +kernel
theorem dL_law_447 : decode cL_law 447 = .ok (.aload_n 0, 1) := by decide +kernel
theorem dL_law_448 : decode cL_law 448 = .ok (.iload_n 3, 1) := by decide +kernel
theorem dL_law_449 : decode cL_law 449 = .ok (.iconst 1, 1) := by decide +kernel
theorem dL_law_450 : decode cL_law 450 = .ok (.iadd, 1) := by decide +kernel
theorem dL_law_451 : decode cL_law 451 = .ok (.iaload, 1) := by decide +kernel
theorem dL_law_452 : decode cL_law 452 = .ok (.aload_n 0, 1) := by decide +kernel
theorem dL_law_453 : decode cL_law 453 = .ok (.iload_n 3, 1) := by decide +kernel
theorem dL_law_454 : decode cL_law 454 = .ok (.iconst 2, 1) := by decide +kernel
theorem dL_law_455 : decode cL_law 455 = .ok (.iadd, 1) := by decide +kernel
theorem dL_law_456 : decode cL_law 456 = .ok (.iaload, 1) := by decide +kernel
theorem dL_law_457 : decode cL_law 457 = .ok (.invokevirtual 51, 3) := by decide +kernel
theorem dL_law_460 : decode cL_law 460 = .ok (.if_icmp .eq 870, 3) := by decide +kernel
theorem dL_law_463 : decode cL_law 463 = .ok (.iconst 0, 1) := by decide +kernel
theorem dL_law_464 : decode cL_law 464 = .ok (.ireturn, 1) := by decide +kernel
theorem dL_law_465 : decode cL_law 465 = .ok (.aload_n 1, 1) := by decide +kernel
theorem dL_law_466 : decode cL_law 466 = .ok (.aload_n 0, 1) := by decide +kernel
theorem dL_law_467 : decode cL_law 467 = .ok (.iload_n 3, 1) := by decide +kernel
theorem dL_law_468 : decode cL_law 468 = .ok (.iconst 1, 1) := by decide +kernel
theorem dL_law_469 : decode cL_law 469 = .ok (.iadd, 1) := by decide +kernel
theorem dL_law_470 : decode cL_law 470 = .ok (.iaload, 1) := by decide +kernel
theorem dL_law_471 : decode cL_law 471 = .ok (.aload_n 0, 1) := by decide +kernel
theorem dL_law_472 : decode cL_law 472 = .ok (.iload_n 3, 1) := by decide +kernel
theorem dL_law_473 : decode cL_law 473 = .ok (.iconst 2, 1) := by decide +kernel
theorem dL_law_474 : decode cL_law 474 = .ok (.iadd, 1) := by decide +kernel
theorem dL_law_475 : decode cL_law 475 = .ok (.iaload, 1) := by decide +kernel
theorem dL_law_476 : decode cL_law 476 = .ok (.aload_n 0, 1) := by decide +kernel
theorem dL_law_477 : decode cL_law 477 = .ok (.iload_n 3, 1) := by decide +kernel
theorem dL_law_478 : decode cL_law 478 = .ok (.iconst 3, 1) := by decide +kernel
theorem dL_law_479 : decode cL_law 479 = .ok (.iadd, 1) := by decide +kernel
theorem dL_law_480 : decode cL_law 480 = .ok (.iaload, 1) := by decide +kernel
theorem dL_law_481 : decode cL_law 481 = .ok (.invokevirtual 52, 3) := by decide +kernel
theorem dL_law_484 : decode cL_law 484 = .ok (.aload_n 2, 1) := by decide +kernel
theorem dL_law_485 : decode cL_law 485 = .ok (.aload_n 0, 1) := by decide +kernel
theorem dL_law_486 : decode cL_law 486 = .ok (.iload_n 3, 1) := by decide +kernel
theorem dL_law_487 : decode cL_law 487 = .ok (.iconst 1, 1) := by decide +kernel
theorem dL_law_488 : decode cL_law 488 = .ok (.iadd, 1) := by decide +kernel
theorem dL_law_489 : decode cL_law 489 = .ok (.iaload, 1) := by decide +kernel
theorem dL_law_490 : decode cL_law 490 = .ok (.aload_n 0, 1) := by decide +kernel
theorem dL_law_491 : decode cL_law 491 = .ok (.iload_n 3, 1) := by decide +kernel
theorem dL_law_492 : decode cL_law 492 = .ok (.iconst 2, 1) := by decide +kernel
theorem dL_law_493 : decode cL_law 493 = .ok (.iadd, 1) := by decide +kernel
theorem dL_law_494 : decode cL_law 494 = .ok (.iaload, 1) := by decide +kernel
theorem dL_law_495 : decode cL_law 495 = .ok (.aload_n 0, 1) := by decide +kernel
theorem dL_law_496 : decode cL_law 496 = .ok (.iload_n 3, 1) := by decide +kernel
theorem dL_law_497 : decode cL_law 497 = .ok (.iconst 3, 1) := by decide +kernel
theorem dL_law_498 : decode cL_law 498 = .ok (.iadd, 1) := by decide +kernel
theorem dL_law_499 : decode cL_law 499 = .ok (.iaload, 1) := by decide +kernel
theorem dL_law_500 : decode cL_law 500 = .ok (.invokevirtual 56, 3) := by decide +kernel
theorem dL_law_503 : decode cL_law 503 = .ok (.if_icmp .eq 827, 3) := by decide +kernel
theorem dL_law_506 : decode cL_law 506 = .ok (.iconst 0, 1) := by decide +kernel
theorem dL_law_507 : decode cL_law 507 = .ok (.ireturn, 1) := by decide +kernel
theorem dL_law_508 : decode cL_law 508 = .ok (.aload_n 1, 1) := by decide +kernel
theorem dL_law_509 : decode cL_law 509 = .ok (.aload_n 0, 1) := by decide +kernel
theorem dL_law_510 : decode cL_law 510 = .ok (.iload_n 3, 1) := by decide +kernel
theorem dL_law_511 : decode cL_law 511 = .ok (.iconst 1, 1) := by decide +kernel
theorem dL_law_512 : decode cL_law 512 = .ok (.iadd, 1) := by decide +kernel
theorem dL_law_513 : decode cL_law 513 = .ok (.iaload, 1) := by decide +kernel
theorem dL_law_514 : decode cL_law 514 = .ok (.invokevirtual 57, 3) := by decide +kernel
theorem dL_law_517 : decode cL_law 517 = .ok (.aload_n 2, 1) := by decide +kernel
theorem dL_law_518 : decode cL_law 518 = .ok (.aload_n 0, 1) := by decide +kernel
theorem dL_law_519 : decode cL_law 519 = .ok (.iload_n 3, 1) := by decide +kernel
theorem dL_law_520 : decode cL_law 520 = .ok (.iconst 1, 1) := by decide +kernel
theorem dL_law_521 : decode cL_law 521 = .ok (.iadd, 1) := by decide +kernel
theorem dL_law_522 : decode cL_law 522 = .ok (.iaload, 1) := by decide +kernel
theorem dL_law_523 : decode cL_law 523 = .ok (.invokevirtual 60, 3) := by decide +kernel
theorem dL_law_526 : decode cL_law 526 = .ok (.if_icmp .eq 804, 3) := by decide +kernel
theorem dL_law_529 : decode cL_law 529 = .ok (.iconst 0, 1) := by decide +kernel
theorem dL_law_530 : decode cL_law 530 = .ok (.ireturn, 1) := by decide +kernel
theorem dL_law_531 : decode cL_law 531 = .ok (.aload_n 1, 1) := by decide +kernel
theorem dL_law_532 : decode cL_law 532 = .ok (.aload_n 0, 1) := by decide +kernel
theorem dL_law_533 : decode cL_law 533 = .ok (.iload_n 3, 1) := by decide +kernel
theorem dL_law_534 : decode cL_law 534 = .ok (.iconst 1, 1) := by decide +kernel
theorem dL_law_535 : decode cL_law 535 = .ok (.iadd, 1) := by decide +kernel
theorem dL_law_536 : decode cL_law 536 = .ok (.iaload, 1) := by decide +kernel
theorem dL_law_537 : decode cL_law 537 = .ok (.aload_n 0, 1) := by decide +kernel
theorem dL_law_538 : decode cL_law 538 = .ok (.iload_n 3, 1) := by decide +kernel
theorem dL_law_539 : decode cL_law 539 = .ok (.iconst 2, 1) := by decide +kernel
theorem dL_law_540 : decode cL_law 540 = .ok (.iadd, 1) := by decide +kernel
theorem dL_law_541 : decode cL_law 541 = .ok (.iaload, 1) := by decide +kernel
theorem dL_law_542 : decode cL_law 542 = .ok (.aload_n 0, 1) := by decide +kernel
theorem dL_law_543 : decode cL_law 543 = .ok (.iload_n 3, 1) := by decide +kernel
theorem dL_law_544 : decode cL_law 544 = .ok (.iconst 3, 1) := by decide +kernel
theorem dL_law_545 : decode cL_law 545 = .ok (.iadd, 1) := by decide +kernel
theorem dL_law_546 : decode cL_law 546 = .ok (.iaload, 1) := by decide +kernel
theorem dL_law_547 : decode cL_law 547 = .ok (.invokevirtual 61, 3) := by decide +kernel
theorem dL_law_550 : decode cL_law 550 = .ok (.aload_n 2, 1) := by decide +kernel
theorem dL_law_551 : decode cL_law 551 = .ok (.aload_n 0, 1) := by decide +kernel
theorem dL_law_552 : decode cL_law 552 = .ok (.iload_n 3, 1) := by decide +kernel
theorem dL_law_553 : decode cL_law 553 = .ok (.iconst 1, 1) := by decide +kernel
theorem dL_law_554 : decode cL_law 554 = .ok (.iadd, 1) := by decide +kernel
theorem dL_law_555 : decode cL_law 555 = .ok (.iaload, 1) := by decide +kernel
theorem dL_law_556 : decode cL_law 556 = .ok (.aload_n 0, 1) := by decide +kernel
theorem dL_law_557 : decode cL_law 557 = .ok (.iload_n 3, 1) := by decide +kernel
theorem dL_law_558 : decode cL_law 558 = .ok (.iconst 2, 1) := by decide +kernel
theorem dL_law_559 : decode cL_law 559 = .ok (.iadd, 1) := by decide +kernel
theorem dL_law_560 : decode cL_law 560 = .ok (.iaload, 1) := by decide +kernel
theorem dL_law_561 : decode cL_law 561 = .ok (.aload_n 0, 1) := by decide +kernel
theorem dL_law_562 : decode cL_law 562 = .ok (.iload_n 3, 1) := by decide +kernel
theorem dL_law_563 : decode cL_law 563 = .ok (.iconst 3, 1) := by decide +kernel
theorem dL_law_564 : decode cL_law 564 = .ok (.iadd, 1) := by decide +kernel
theorem dL_law_565 : decode cL_law 565 = .ok (.iaload, 1) := by decide +kernel
theorem dL_law_566 : decode cL_law 566 = .ok (.invokevirtual 64, 3) := by decide +kernel
theorem dL_law_569 : decode cL_law 569 = .ok (.if_icmp .eq 761, 3) := by decide +kernel
theorem dL_law_572 : decode cL_law 572 = .ok (.iconst 0, 1) := by decide +kernel
theorem dL_law_573 : decode cL_law 573 = .ok (.ireturn, 1) := by decide +kernel
theorem dL_law_574 : decode cL_law 574 = .ok (.aload_n 1, 1) := by decide +kernel
theorem dL_law_575 : decode cL_law 575 = .ok (.aload_n 0, 1) := by decide +kernel
theorem dL_law_576 : decode cL_law 576 = .ok (.iload_n 3, 1) := by decide +kernel
theorem dL_law_577 : decode cL_law 577 = .ok (.iconst 1, 1) := by decide +kernel
theorem dL_law_578 : decode cL_law 578 = .ok (.iadd, 1) := by decide +kernel
theorem dL_law_579 : decode cL_law 579 = .ok (.iaload, 1) := by decide +kernel
theorem dL_law_580 : decode cL_law 580 = .ok (.aload_n 0, 1) := by decide +kernel
theorem dL_law_581 : decode cL_law 581 = .ok (.iload_n 3, 1) := by decide +kernel
theorem dL_law_582 : decode cL_law 582 = .ok (.iconst 2, 1) := by decide +kernel
theorem dL_law_583 : decode cL_law 583 = .ok (.iadd, 1) := by decide +kernel
theorem dL_law_584 : decode cL_law 584 = .ok (.iaload, 1) := by decide +kernel
theorem dL_law_585 : decode cL_law 585 = .ok (.invokevirtual 65, 3) := by decide +kernel
theorem dL_law_588 : decode cL_law 588 = .ok (.aload_n 2, 1) := by decide +kernel
theorem dL_law_589 : decode cL_law 589 = .ok (.aload_n 0, 1) := by decide +kernel
theorem dL_law_590 : decode cL_law 590 = .ok (.iload_n 3, 1) := by decide +kernel
theorem dL_law_591 : decode cL_law 591 = .ok (.iconst 1, 1) := by decide +kernel
theorem dL_law_592 : decode cL_law 592 = .ok (.iadd, 1) := by decide +kernel
theorem dL_law_593 : decode cL_law 593 = .ok (.iaload, 1) := by decide +kernel
theorem dL_law_594 : decode cL_law 594 = .ok (.aload_n 0, 1) := by decide +kernel
theorem dL_law_595 : decode cL_law 595 = .ok (.iload_n 3, 1) := by decide +kernel
theorem dL_law_596 : decode cL_law 596 = .ok (.iconst 2, 1) := by decide +kernel
theorem dL_law_597 : decode cL_law 597 = .ok (.iadd, 1) := by decide +kernel
theorem dL_law_598 : decode cL_law 598 = .ok (.iaload, 1) := by decide +kernel
theorem dL_law_599 : decode cL_law 599 = .ok (.invokevirtual 68, 3) := by decide +kernel
theorem dL_law_602 : decode cL_law 602 = .ok (.if_icmp .eq 728, 3) := by decide +kernel
theorem dL_law_605 : decode cL_law 605 = .ok (.iconst 0, 1) := by decide +kernel
theorem dL_law_606 : decode cL_law 606 = .ok (.ireturn, 1) := by decide +kernel
theorem dL_law_607 : decode cL_law 607 = .ok (.aload_n 1, 1) := by decide +kernel
theorem dL_law_608 : decode cL_law 608 = .ok (.aload_n 0, 1) := by decide +kernel
theorem dL_law_609 : decode cL_law 609 = .ok (.iload_n 3, 1) := by decide +kernel
theorem dL_law_610 : decode cL_law 610 = .ok (.iconst 1, 1) := by decide +kernel
theorem dL_law_611 : decode cL_law 611 = .ok (.iadd, 1) := by decide +kernel
theorem dL_law_612 : decode cL_law 612 = .ok (.iaload, 1) := by decide +kernel
theorem dL_law_613 : decode cL_law 613 = .ok (.invokevirtual 69, 3) := by decide +kernel
theorem dL_law_616 : decode cL_law 616 = .ok (.aload_n 2, 1) := by decide +kernel
theorem dL_law_617 : decode cL_law 617 = .ok (.aload_n 0, 1) := by decide +kernel
theorem dL_law_618 : decode cL_law 618 = .ok (.iload_n 3, 1) := by decide +kernel
theorem dL_law_619 : decode cL_law 619 = .ok (.iconst 1, 1) := by decide +kernel
theorem dL_law_620 : decode cL_law 620 = .ok (.iadd, 1) := by decide +kernel
theorem dL_law_621 : decode cL_law 621 = .ok (.iaload, 1) := by decide +kernel
theorem dL_law_622 : decode cL_law 622 = .ok (.invokevirtual 72, 3) := by decide +kernel
theorem dL_law_625 : decode cL_law 625 = .ok (.if_icmp .eq 705, 3) := by decide +kernel
theorem dL_law_628 : decode cL_law 628 = .ok (.iconst 0, 1) := by decide +kernel
theorem dL_law_629 : decode cL_law 629 = .ok (.ireturn, 1) := by decide +kernel
theorem dL_law_630 : decode cL_law 630 = .ok (.aload_n 1, 1) := by decide +kernel
theorem dL_law_631 : decode cL_law 631 = .ok (.aload_n 0, 1) := by decide +kernel
theorem dL_law_632 : decode cL_law 632 = .ok (.iload_n 3, 1) := by decide +kernel
theorem dL_law_633 : decode cL_law 633 = .ok (.iconst 1, 1) := by decide +kernel
theorem dL_law_634 : decode cL_law 634 = .ok (.iadd, 1) := by decide +kernel
theorem dL_law_635 : decode cL_law 635 = .ok (.iaload, 1) := by decide +kernel
theorem dL_law_636 : decode cL_law 636 = .ok (.invokevirtual 73, 3) := by decide +kernel
theorem dL_law_639 : decode cL_law 639 = .ok (.aload_n 2, 1) := by decide +kernel
theorem dL_law_640 : decode cL_law 640 = .ok (.aload_n 0, 1) := by decide +kernel
theorem dL_law_641 : decode cL_law 641 = .ok (.iload_n 3, 1) := by decide +kernel
theorem dL_law_642 : decode cL_law 642 = .ok (.iconst 1, 1) := by decide +kernel
theorem dL_law_643 : decode cL_law 643 = .ok (.iadd, 1) := by decide +kernel
theorem dL_law_644 : decode cL_law 644 = .ok (.iaload, 1) := by decide +kernel
theorem dL_law_645 : decode cL_law 645 = .ok (.invokevirtual 76, 3) := by decide +kernel
theorem dL_law_648 : decode cL_law 648 = .ok (.if_icmp .eq 682, 3) := by decide +kernel
theorem dL_law_651 : decode cL_law 651 = .ok (.iconst 0, 1) := by decide +kernel
theorem dL_law_652 : decode cL_law 652 = .ok (.ireturn, 1) := by decide +kernel
theorem dL_law_653 : decode cL_law 653 = .ok (.aload_n 1, 1) := by decide +kernel
theorem dL_law_654 : decode cL_law 654 = .ok (.aload_n 0, 1) := by decide +kernel
theorem dL_law_655 : decode cL_law 655 = .ok (.iload_n 3, 1) := by decide +kernel
theorem dL_law_656 : decode cL_law 656 = .ok (.iconst 1, 1) := by decide +kernel
theorem dL_law_657 : decode cL_law 657 = .ok (.iadd, 1) := by decide +kernel
theorem dL_law_658 : decode cL_law 658 = .ok (.iaload, 1) := by decide +kernel
theorem dL_law_659 : decode cL_law 659 = .ok (.aload_n 0, 1) := by decide +kernel
theorem dL_law_660 : decode cL_law 660 = .ok (.iload_n 3, 1) := by decide +kernel
theorem dL_law_661 : decode cL_law 661 = .ok (.iconst 2, 1) := by decide +kernel
theorem dL_law_662 : decode cL_law 662 = .ok (.iadd, 1) := by decide +kernel
theorem dL_law_663 : decode cL_law 663 = .ok (.iaload, 1) := by decide +kernel
theorem dL_law_664 : decode cL_law 664 = .ok (.aload_n 0, 1) := by decide +kernel
theorem dL_law_665 : decode cL_law 665 = .ok (.iload_n 3, 1) := by decide +kernel
theorem dL_law_666 : decode cL_law 666 = .ok (.iconst 3, 1) := by decide +kernel
theorem dL_law_667 : decode cL_law 667 = .ok (.iadd, 1) := by decide +kernel
theorem dL_law_668 : decode cL_law 668 = .ok (.iaload, 1) := by decide +kernel
theorem dL_law_669 : decode cL_law 669 = .ok (.invokevirtual 77, 3) := by decide +kernel
theorem dL_law_672 : decode cL_law 672 = .ok (.aload_n 2, 1) := by decide +kernel
theorem dL_law_673 : decode cL_law 673 = .ok (.aload_n 0, 1) := by decide +kernel
theorem dL_law_674 : decode cL_law 674 = .ok (.iload_n 3, 1) := by decide +kernel
theorem dL_law_675 : decode cL_law 675 = .ok (.iconst 1, 1) := by decide +kernel
theorem dL_law_676 : decode cL_law 676 = .ok (.iadd, 1) := by decide +kernel
theorem dL_law_677 : decode cL_law 677 = .ok (.iaload, 1) := by decide +kernel
theorem dL_law_678 : decode cL_law 678 = .ok (.aload_n 0, 1) := by decide +kernel
theorem dL_law_679 : decode cL_law 679 = .ok (.iload_n 3, 1) := by decide +kernel
theorem dL_law_680 : decode cL_law 680 = .ok (.iconst 2, 1) := by decide +kernel
theorem dL_law_681 : decode cL_law 681 = .ok (.iadd, 1) := by decide +kernel
theorem dL_law_682 : decode cL_law 682 = .ok (.iaload, 1) := by decide +kernel
theorem dL_law_683 : decode cL_law 683 = .ok (.aload_n 0, 1) := by decide +kernel
theorem dL_law_684 : decode cL_law 684 = .ok (.iload_n 3, 1) := by decide +kernel
theorem dL_law_685 : decode cL_law 685 = .ok (.iconst 3, 1) := by decide +kernel
theorem dL_law_686 : decode cL_law 686 = .ok (.iadd, 1) := by decide +kernel
theorem dL_law_687 : decode cL_law 687 = .ok (.iaload, 1) := by decide +kernel
theorem dL_law_688 : decode cL_law 688 = .ok (.invokevirtual 80, 3) := by decide +kernel
theorem dL_law_691 : decode cL_law 691 = .ok (.if_icmp .eq 639, 3) := by decide +kernel
theorem dL_law_694 : decode cL_law 694 = .ok (.iconst 0, 1) := by decide +kernel
theorem dL_law_695 : decode cL_law 695 = .ok (.ireturn, 1) := by decide +kernel
theorem dL_law_696 : decode cL_law 696 = .ok (.aload_n 1, 1) := by decide +kernel
theorem dL_law_697 : decode cL_law 697 = .ok (.invokevirtual 81, 3) := by decide +kernel
theorem dL_law_700 : decode cL_law 700 = .ok (.aload_n 2, 1) := by decide +kernel
theorem dL_law_701 : decode cL_law 701 = .ok (.invokevirtual 84, 3) := by decide +kernel
theorem dL_law_704 : decode cL_law 704 = .ok (.if_icmp .eq 626, 3) := by decide +kernel
theorem dL_law_707 : decode cL_law 707 = .ok (.iconst 0, 1) := by decide +kernel
theorem dL_law_708 : decode cL_law 708 = .ok (.ireturn, 1) := by decide +kernel
theorem dL_law_709 : decode cL_law 709 = .ok (.aload_n 1, 1) := by decide +kernel
theorem dL_law_710 : decode cL_law 710 = .ok (.aload_n 0, 1) := by decide +kernel
theorem dL_law_711 : decode cL_law 711 = .ok (.iload_n 3, 1) := by decide +kernel
theorem dL_law_712 : decode cL_law 712 = .ok (.iconst 1, 1) := by decide +kernel
theorem dL_law_713 : decode cL_law 713 = .ok (.iadd, 1) := by decide +kernel
theorem dL_law_714 : decode cL_law 714 = .ok (.iaload, 1) := by decide +kernel
theorem dL_law_715 : decode cL_law 715 = .ok (.aload_n 0, 1) := by decide +kernel
theorem dL_law_716 : decode cL_law 716 = .ok (.iload_n 3, 1) := by decide +kernel
theorem dL_law_717 : decode cL_law 717 = .ok (.iconst 2, 1) := by decide +kernel
theorem dL_law_718 : decode cL_law 718 = .ok (.iadd, 1) := by decide +kernel
theorem dL_law_719 : decode cL_law 719 = .ok (.iaload, 1) := by decide +kernel
theorem dL_law_720 : decode cL_law 720 = .ok (.aload_n 0, 1) := by decide +kernel
theorem dL_law_721 : decode cL_law 721 = .ok (.iload_n 3, 1) := by decide +kernel
theorem dL_law_722 : decode cL_law 722 = .ok (.iconst 3, 1) := by decide +kernel
theorem dL_law_723 : decode cL_law 723 = .ok (.iadd, 1) := by decide +kernel
theorem dL_law_724 : decode cL_law 724 = .ok (.iaload, 1) := by decide +kernel
theorem dL_law_725 : decode cL_law 725 = .ok (.invokevirtual 85, 3) := by decide +kernel
theorem dL_law_728 : decode cL_law 728 = .ok (.aload_n 2, 1) := by decide +kernel
theorem dL_law_729 : decode cL_law 729 = .ok (.aload_n 0, 1) := by decide +kernel
theorem dL_law_730 : decode cL_law 730 = .ok (.iload_n 3, 1) := by decide +kernel
theorem dL_law_731 : decode cL_law 731 = .ok (.iconst 1, 1) := by decide +kernel
theorem dL_law_732 : decode cL_law 732 = .ok (.iadd, 1) := by decide +kernel
theorem dL_law_733 : decode cL_law 733 = .ok (.iaload, 1) := by decide +kernel
theorem dL_law_734 : decode cL_law 734 = .ok (.aload_n 0, 1) := by decide +kernel
theorem dL_law_735 : decode cL_law 735 = .ok (.iload_n 3, 1) := by decide +kernel
theorem dL_law_736 : decode cL_law 736 = .ok (.iconst 2, 1) := by decide +kernel
theorem dL_law_737 : decode cL_law 737 = .ok (.iadd, 1) := by decide +kernel
theorem dL_law_738 : decode cL_law 738 = .ok (.iaload, 1) := by decide +kernel
theorem dL_law_739 : decode cL_law 739 = .ok (.aload_n 0, 1) := by decide +kernel
theorem dL_law_740 : decode cL_law 740 = .ok (.iload_n 3, 1) := by decide +kernel
theorem dL_law_741 : decode cL_law 741 = .ok (.iconst 3, 1) := by decide +kernel
theorem dL_law_742 : decode cL_law 742 = .ok (.iadd, 1) := by decide +kernel
theorem dL_law_743 : decode cL_law 743 = .ok (.iaload, 1) := by decide +kernel
theorem dL_law_744 : decode cL_law 744 = .ok (.invokevirtual 88, 3) := by decide +kernel
theorem dL_law_747 : decode cL_law 747 = .ok (.if_icmp .eq 583, 3) := by decide +kernel
theorem dL_law_750 : decode cL_law 750 = .ok (.iconst 0, 1) := by decide +kernel
theorem dL_law_751 : decode cL_law 751 = .ok (.ireturn, 1) := by decide +kernel
theorem dL_law_752 : decode cL_law 752 = .ok (.aload_n 1, 1) := by decide +kernel
theorem dL_law_753 : decode cL_law 753 = .ok (.aload_n 0, 1) := by decide +kernel
theorem dL_law_754 : decode cL_law 754 = .ok (.iload_n 3, 1) := by decide +kernel
theorem dL_law_755 : decode cL_law 755 = .ok (.iconst 1, 1) := by decide +kernel
theorem dL_law_756 : decode cL_law 756 = .ok (.iadd, 1) := by decide +kernel
theorem dL_law_757 : decode cL_law 757 = .ok (.iaload, 1) := by decide +kernel
theorem dL_law_758 : decode cL_law 758 = .ok (.aload_n 0, 1) := by decide +kernel
theorem dL_law_759 : decode cL_law 759 = .ok (.iload_n 3, 1) := by decide +kernel
theorem dL_law_760 : decode cL_law 760 = .ok (.iconst 2, 1) := by decide +kernel
theorem dL_law_761 : decode cL_law 761 = .ok (.iadd, 1) := by decide +kernel
theorem dL_law_762 : decode cL_law 762 = .ok (.iaload, 1) := by decide +kernel
theorem dL_law_763 : decode cL_law 763 = .ok (.invokevirtual 89, 3) := by decide +kernel
theorem dL_law_766 : decode cL_law 766 = .ok (.aload_n 2, 1) := by decide +kernel
theorem dL_law_767 : decode cL_law 767 = .ok (.aload_n 0, 1) := by decide +kernel
theorem dL_law_768 : decode cL_law 768 = .ok (.iload_n 3, 1) := by decide +kernel
theorem dL_law_769 : decode cL_law 769 = .ok (.iconst 1, 1) := by decide +kernel
theorem dL_law_770 : decode cL_law 770 = .ok (.iadd, 1) := by decide +kernel
theorem dL_law_771 : decode cL_law 771 = .ok (.iaload, 1) := by decide +kernel
theorem dL_law_772 : decode cL_law 772 = .ok (.aload_n 0, 1) := by decide +kernel
theorem dL_law_773 : decode cL_law 773 = .ok (.iload_n 3, 1) := by decide +kernel
theorem dL_law_774 : decode cL_law 774 = .ok (.iconst 2, 1) := by decide +kernel
theorem dL_law_775 : decode cL_law 775 = .ok (.iadd, 1) := by decide +kernel
theorem dL_law_776 : decode cL_law 776 = .ok (.iaload, 1) := by decide +kernel
theorem dL_law_777 : decode cL_law 777 = .ok (.invokevirtual 92, 3) := by decide +kernel
theorem dL_law_780 : decode cL_law 780 = .ok (.if_icmp .eq 550, 3) := by decide +kernel
theorem dL_law_783 : decode cL_law 783 = .ok (.iconst 0, 1) := by decide +kernel
theorem dL_law_784 : decode cL_law 784 = .ok (.ireturn, 1) := by decide +kernel
theorem dL_law_785 : decode cL_law 785 = .ok (.aload_n 1, 1) := by decide +kernel
theorem dL_law_786 : decode cL_law 786 = .ok (.aload_n 0, 1) := by decide +kernel
theorem dL_law_787 : decode cL_law 787 = .ok (.iload_n 3, 1) := by decide +kernel
theorem dL_law_788 : decode cL_law 788 = .ok (.iconst 1, 1) := by decide +kernel
theorem dL_law_789 : decode cL_law 789 = .ok (.iadd, 1) := by decide +kernel
theorem dL_law_790 : decode cL_law 790 = .ok (.iaload, 1) := by decide +kernel
theorem dL_law_791 : decode cL_law 791 = .ok (.aload_n 0, 1) := by decide +kernel
theorem dL_law_792 : decode cL_law 792 = .ok (.iload_n 3, 1) := by decide +kernel
theorem dL_law_793 : decode cL_law 793 = .ok (.iconst 2, 1) := by decide +kernel
theorem dL_law_794 : decode cL_law 794 = .ok (.iadd, 1) := by decide +kernel
theorem dL_law_795 : decode cL_law 795 = .ok (.iaload, 1) := by decide +kernel
theorem dL_law_796 : decode cL_law 796 = .ok (.invokevirtual 93, 3) := by decide +kernel
theorem dL_law_799 : decode cL_law 799 = .ok (.aload_n 2, 1) := by decide +kernel
theorem dL_law_800 : decode cL_law 800 = .ok (.aload_n 0, 1) := by decide +kernel
theorem dL_law_801 : decode cL_law 801 = .ok (.iload_n 3, 1) := by decide +kernel
theorem dL_law_802 : decode cL_law 802 = .ok (.iconst 1, 1) := by decide +kernel
theorem dL_law_803 : decode cL_law 803 = .ok (.iadd, 1) := by decide +kernel
theorem dL_law_804 : decode cL_law 804 = .ok (.iaload, 1) := by decide +kernel
theorem dL_law_805 : decode cL_law 805 = .ok (.aload_n 0, 1) := by decide +kernel
theorem dL_law_806 : decode cL_law 806 = .ok (.iload_n 3, 1) := by decide +kernel
theorem dL_law_807 : decode cL_law 807 = .ok (.iconst 2, 1) := by decide +kernel
theorem dL_law_808 : decode cL_law 808 = .ok (.iadd, 1) := by decide +kernel
theorem dL_law_809 : decode cL_law 809 = .ok (.iaload, 1) := by decide +kernel
theorem dL_law_810 : decode cL_law 810 = .ok (.invokevirtual 96, 3) := by decide +kernel
theorem dL_law_813 : decode cL_law 813 = .ok (.if_icmp .eq 517, 3) := by decide +kernel
theorem dL_law_816 : decode cL_law 816 = .ok (.iconst 0, 1) := by decide +kernel
theorem dL_law_817 : decode cL_law 817 = .ok (.ireturn, 1) := by decide +kernel
theorem dL_law_818 : decode cL_law 818 = .ok (.aload_n 1, 1) := by decide +kernel
theorem dL_law_819 : decode cL_law 819 = .ok (.aload_n 0, 1) := by decide +kernel
theorem dL_law_820 : decode cL_law 820 = .ok (.iload_n 3, 1) := by decide +kernel
theorem dL_law_821 : decode cL_law 821 = .ok (.iconst 1, 1) := by decide +kernel
theorem dL_law_822 : decode cL_law 822 = .ok (.iadd, 1) := by decide +kernel
theorem dL_law_823 : decode cL_law 823 = .ok (.iaload, 1) := by decide +kernel
theorem dL_law_824 : decode cL_law 824 = .ok (.aload_n 0, 1) := by decide +kernel
theorem dL_law_825 : decode cL_law 825 = .ok (.iload_n 3, 1) := by decide +kernel
theorem dL_law_826 : decode cL_law 826 = .ok (.iconst 2, 1) := by decide +kernel
theorem dL_law_827 : decode cL_law 827 = .ok (.iadd, 1) := by decide +kernel
theorem dL_law_828 : decode cL_law 828 = .ok (.iaload, 1) := by decide +kernel
theorem dL_law_829 : decode cL_law 829 = .ok (.invokevirtual 97, 3) := by decide +kernel
theorem dL_law_832 : decode cL_law 832 = .ok (.aload_n 2, 1) := by decide +kernel
theorem dL_law_833 : decode cL_law 833 = .ok (.aload_n 0, 1) := by decide +kernel
theorem dL_law_834 : decode cL_law 834 = .ok (.iload_n 3, 1) := by decide +kernel
theorem dL_law_835 : decode cL_law 835 = .ok (.iconst 1, 1) := by decide +kernel
theorem dL_law_836 : decode cL_law 836 = .ok (.iadd, 1) := by decide +kernel
theorem dL_law_837 : decode cL_law 837 = .ok (.iaload, 1) := by decide +kernel
theorem dL_law_838 : decode cL_law 838 = .ok (.aload_n 0, 1) := by decide +kernel
theorem dL_law_839 : decode cL_law 839 = .ok (.iload_n 3, 1) := by decide +kernel
theorem dL_law_840 : decode cL_law 840 = .ok (.iconst 2, 1) := by decide +kernel
theorem dL_law_841 : decode cL_law 841 = .ok (.iadd, 1) := by decide +kernel
theorem dL_law_842 : decode cL_law 842 = .ok (.iaload, 1) := by decide +kernel
theorem dL_law_843 : decode cL_law 843 = .ok (.invokevirtual 100, 3) := by decide +kernel
theorem dL_law_846 : decode cL_law 846 = .ok (.if_icmp .eq 484, 3) := by decide +kernel
theorem dL_law_849 : decode cL_law 849 = .ok (.iconst 0, 1) := by decide +kernel
theorem dL_law_850 : decode cL_law 850 = .ok (.ireturn, 1) := by decide +kernel
theorem dL_law_851 : decode cL_law 851 = .ok (.aload_n 1, 1) := by decide +kernel
theorem dL_law_852 : decode cL_law 852 = .ok (.aload_n 0, 1) := by decide +kernel
theorem dL_law_853 : decode cL_law 853 = .ok (.iload_n 3, 1) := by decide +kernel
theorem dL_law_854 : decode cL_law 854 = .ok (.iconst 1, 1) := by decide +kernel
theorem dL_law_855 : decode cL_law 855 = .ok (.iadd, 1) := by decide +kernel
theorem dL_law_856 : decode cL_law 856 = .ok (.iaload, 1) := by decide +kernel
theorem dL_law_857 : decode cL_law 857 = .ok (.aload_n 0, 1) := by decide +kernel
theorem dL_law_858 : decode cL_law 858 = .ok (.iload_n 3, 1) := by decide +kernel
theorem dL_law_859 : decode cL_law 859 = .ok (.iconst 2, 1) := by decide +kernel
theorem dL_law_860 : decode cL_law 860 = .ok (.iadd, 1) := by decide +kernel
theorem dL_law_861 : decode cL_law 861 = .ok (.iaload, 1) := by decide +kernel
theorem dL_law_862 : decode cL_law 862 = .ok (.invokevirtual 101, 3) := by decide +kernel
theorem dL_law_865 : decode cL_law 865 = .ok (.aload_n 2, 1) := by decide +kernel
theorem dL_law_866 : decode cL_law 866 = .ok (.aload_n 0, 1) := by decide +kernel
theorem dL_law_867 : decode cL_law 867 = .ok (.iload_n 3, 1) := by decide +kernel
theorem dL_law_868 : decode cL_law 868 = .ok (.iconst 1, 1) := by decide +kernel
theorem dL_law_869 : decode cL_law 869 = .ok (.iadd, 1) := by decide +kernel
theorem dL_law_870 : decode cL_law 870 = .ok (.iaload, 1) := by decide +kernel
theorem dL_law_871 : decode cL_law 871 = .ok (.aload_n 0, 1) := by decide +kernel
theorem dL_law_872 : decode cL_law 872 = .ok (.iload_n 3, 1) := by decide +kernel
theorem dL_law_873 : decode cL_law 873 = .ok (.iconst 2, 1) := by decide +kernel
theorem dL_law_874 : decode cL_law 874 = .ok (.iadd, 1) := by decide +kernel
theorem dL_law_875 : decode cL_law 875 = .ok (.iaload, 1) := by decide +kernel
theorem dL_law_876 : decode cL_law 876 = .ok (.invokevirtual 104, 3) := by decide +kernel
theorem dL_law_879 : decode cL_law 879 = .ok (.if_icmp .eq 451, 3) := by decide +kernel
theorem dL_law_882 : decode cL_law 882 = .ok (.iconst 0, 1) := by decide +kernel
theorem dL_law_883 : decode cL_law 883 = .ok (.ireturn, 1) := by decide +kernel
theorem dL_law_884 : decode cL_law 884 = .ok (.aload_n 1, 1) := by decide +kernel
theorem dL_law_885 : decode cL_law 885 = .ok (.invokevirtual 105, 3) := by decide +kernel
theorem dL_law_888 : decode cL_law 888 = .ok (.aload_n 2, 1) := by decide +kernel
theorem dL_law_889 : decode cL_law 889 = .ok (.invokevirtual 108, 3) := by decide +kernel
theorem dL_law_892 : decode cL_law 892 = .ok (.if_icmp .eq 438, 3) := by decide +kernel
theorem dL_law_895 : decode cL_law 895 = .ok (.iconst 0, 1) := by decide +kernel
theorem dL_law_896 : decode cL_law 896 = .ok (.ireturn, 1) := by decide +kernel
theorem dL_law_897 : decode cL_law 897 = .ok (.aload_n 1, 1) := by decide +kernel
theorem dL_law_898 : decode cL_law 898 = .ok (.aload_n 0, 1) := by decide +kernel
theorem dL_law_899 : decode cL_law 899 = .ok (.iload_n 3, 1) := by decide +kernel
theorem dL_law_900 : decode cL_law 900 = .ok (.iconst 1, 1) := by decide +kernel
theorem dL_law_901 : decode cL_law 901 = .ok (.iadd, 1) := by decide +kernel
theorem dL_law_902 : decode cL_law 902 = .ok (.iaload, 1) := by decide +kernel
theorem dL_law_903 : decode cL_law 903 = .ok (.invokevirtual 109, 3) := by decide +kernel
theorem dL_law_906 : decode cL_law 906 = .ok (.aload_n 2, 1) := by decide +kernel
theorem dL_law_907 : decode cL_law 907 = .ok (.aload_n 0, 1) := by decide +kernel
theorem dL_law_908 : decode cL_law 908 = .ok (.iload_n 3, 1) := by decide +kernel
theorem dL_law_909 : decode cL_law 909 = .ok (.iconst 1, 1) := by decide +kernel
theorem dL_law_910 : decode cL_law 910 = .ok (.iadd, 1) := by decide +kernel
theorem dL_law_911 : decode cL_law 911 = .ok (.iaload, 1) := by decide +kernel
theorem dL_law_912 : decode cL_law 912 = .ok (.invokevirtual 112, 3) := by decide +kernel
theorem dL_law_915 : decode cL_law 915 = .ok (.if_icmp .eq 415, 3) := by decide +kernel
theorem dL_law_918 : decode cL_law 918 = .ok (.iconst 0, 1) := by decide +kernel
theorem dL_law_919 : decode cL_law 919 = .ok (.ireturn, 1) := by decide +kernel
theorem dL_law_920 : decode cL_law 920 = .ok (.aload_n 1, 1) := by decide +kernel
theorem dL_law_921 : decode cL_law 921 = .ok (.aload_n 0, 1) := by decide +kernel
theorem dL_law_922 : decode cL_law 922 = .ok (.iload_n 3, 1) := by decide +kernel
theorem dL_law_923 : decode cL_law 923 = .ok (.iconst 1, 1) := by decide +kernel
theorem dL_law_924 : decode cL_law 924 = .ok (.iadd, 1) := by decide +kernel
theorem dL_law_925 : decode cL_law 925 = .ok (.iaload, 1) := by decide +kernel
theorem dL_law_926 : decode cL_law 926 = .ok (.invokevirtual 113, 3) := by decide +kernel
theorem dL_law_929 : decode cL_law 929 = .ok (.aload_n 2, 1) := by decide +kernel
theorem dL_law_930 : decode cL_law 930 = .ok (.aload_n 0, 1) := by decide +kernel
theorem dL_law_931 : decode cL_law 931 = .ok (.iload_n 3, 1) := by decide +kernel
theorem dL_law_932 : decode cL_law 932 = .ok (.iconst 1, 1) := by decide +kernel
theorem dL_law_933 : decode cL_law 933 = .ok (.iadd, 1) := by decide +kernel
theorem dL_law_934 : decode cL_law 934 = .ok (.iaload, 1) := by decide +kernel
theorem dL_law_935 : decode cL_law 935 = .ok (.invokevirtual 116, 3) := by decide +kernel
theorem dL_law_938 : decode cL_law 938 = .ok (.if_icmp .eq 392, 3) := by decide +kernel
theorem dL_law_941 : decode cL_law 941 = .ok (.iconst 0, 1) := by decide +kernel
theorem dL_law_942 : decode cL_law 942 = .ok (.ireturn, 1) := by decide +kernel
theorem dL_law_943 : decode cL_law 943 = .ok (.aload_n 1, 1) := by decide +kernel
theorem dL_law_944 : decode cL_law 944 = .ok (.invokevirtual 117, 3) := by decide +kernel
theorem dL_law_947 : decode cL_law 947 = .ok (.aload_n 2, 1) := by decide +kernel
theorem dL_law_948 : decode cL_law 948 = .ok (.invokevirtual 120, 3) := by decide +kernel
theorem dL_law_951 : decode cL_law 951 = .ok (.if_icmp .eq 379, 3) := by decide +kernel
theorem dL_law_954 : decode cL_law 954 = .ok (.iconst 0, 1) := by decide +kernel
theorem dL_law_955 : decode cL_law 955 = .ok (.ireturn, 1) := by decide +kernel
theorem dL_law_956 : decode cL_law 956 = .ok (.aload_n 1, 1) := by decide +kernel
theorem dL_law_957 : decode cL_law 957 = .ok (.aload_n 0, 1) := by decide +kernel
theorem dL_law_958 : decode cL_law 958 = .ok (.iload_n 3, 1) := by decide +kernel
theorem dL_law_959 : decode cL_law 959 = .ok (.iconst 1, 1) := by decide +kernel
theorem dL_law_960 : decode cL_law 960 = .ok (.iadd, 1) := by decide +kernel
theorem dL_law_961 : decode cL_law 961 = .ok (.iaload, 1) := by decide +kernel
theorem dL_law_962 : decode cL_law 962 = .ok (.invokevirtual 121, 3) := by decide +kernel
theorem dL_law_965 : decode cL_law 965 = .ok (.aload_n 2, 1) := by decide +kernel
theorem dL_law_966 : decode cL_law 966 = .ok (.aload_n 0, 1) := by decide +kernel
theorem dL_law_967 : decode cL_law 967 = .ok (.iload_n 3, 1) := by decide +kernel
theorem dL_law_968 : decode cL_law 968 = .ok (.iconst 1, 1) := by decide +kernel
theorem dL_law_969 : decode cL_law 969 = .ok (.iadd, 1) := by decide +kernel
theorem dL_law_970 : decode cL_law 970 = .ok (.iaload, 1) := by decide +kernel
theorem dL_law_971 : decode cL_law 971 = .ok (.invokevirtual 124, 3) := by decide +kernel
theorem dL_law_974 : decode cL_law 974 = .ok (.if_icmp .eq 356, 3) := by decide +kernel
theorem dL_law_977 : decode cL_law 977 = .ok (.iconst 0, 1) := by decide +kernel
theorem dL_law_978 : decode cL_law 978 = .ok (.ireturn, 1) := by decide +kernel
theorem dL_law_979 : decode cL_law 979 = .ok (.aload_n 1, 1) := by decide +kernel
theorem dL_law_980 : decode cL_law 980 = .ok (.aload_n 0, 1) := by decide +kernel
theorem dL_law_981 : decode cL_law 981 = .ok (.iload_n 3, 1) := by decide +kernel
theorem dL_law_982 : decode cL_law 982 = .ok (.iconst 1, 1) := by decide +kernel
theorem dL_law_983 : decode cL_law 983 = .ok (.iadd, 1) := by decide +kernel
theorem dL_law_984 : decode cL_law 984 = .ok (.iaload, 1) := by decide +kernel
theorem dL_law_985 : decode cL_law 985 = .ok (.invokevirtual 125, 3) := by decide +kernel
theorem dL_law_988 : decode cL_law 988 = .ok (.aload_n 2, 1) := by decide +kernel
theorem dL_law_989 : decode cL_law 989 = .ok (.aload_n 0, 1) := by decide +kernel
theorem dL_law_990 : decode cL_law 990 = .ok (.iload_n 3, 1) := by decide +kernel
theorem dL_law_991 : decode cL_law 991 = .ok (.iconst 1, 1) := by decide +kernel
theorem dL_law_992 : decode cL_law 992 = .ok (.iadd, 1) := by decide +kernel
theorem dL_law_993 : decode cL_law 993 = .ok (.iaload, 1) := by decide +kernel
theorem dL_law_994 : decode cL_law 994 = .ok (.invokevirtual 128, 3) := by decide +kernel
theorem dL_law_997 : decode cL_law 997 = .ok (.if_icmp .eq 333, 3) := by decide +kernel
theorem dL_law_1000 : decode cL_law 1000 = .ok (.iconst 0, 1) := by decide +kernel
theorem dL_law_1001 : decode cL_law 1001 = .ok (.ireturn, 1) := by decide +kernel
theorem dL_law_1002 : decode cL_law 1002 = .ok (.aload_n 1, 1) := by decide +kernel
theorem dL_law_1003 : decode cL_law 1003 = .ok (.aload_n 0, 1) := by decide +kernel
theorem dL_law_1004 : decode cL_law 1004 = .ok (.iload_n 3, 1) := by decide +kernel
theorem dL_law_1005 : decode cL_law 1005 = .ok (.iconst 1, 1) := by decide +kernel
theorem dL_law_1006 : decode cL_law 1006 = .ok (.iadd, 1) := by decide +kernel
theorem dL_law_1007 : decode cL_law 1007 = .ok (.iaload, 1) := by decide +kernel
theorem dL_law_1008 : decode cL_law 1008 = .ok (.invokevirtual 129, 3) := by decide +kernel
theorem dL_law_1011 : decode cL_law 1011 = .ok (.aload_n 2, 1) := by decide +kernel
theorem dL_law_1012 : decode cL_law 1012 = .ok (.aload_n 0, 1) := by decide +kernel
theorem dL_law_1013 : decode cL_law 1013 = .ok (.iload_n 3, 1) := by decide +kernel
theorem dL_law_1014 : decode cL_law 1014 = .ok (.iconst 1, 1) := by decide +kernel
theorem dL_law_1015 : decode cL_law 1015 = .ok (.iadd, 1) := by decide +kernel
theorem dL_law_1016 : decode cL_law 1016 = .ok (.iaload, 1) := by decide +kernel
theorem dL_law_1017 : decode cL_law 1017 = .ok (.invokevirtual 132, 3) := by decide +kernel
theorem dL_law_1020 : decode cL_law 1020 = .ok (.if_icmp .eq 310, 3) := by decide +kernel
theorem dL_law_1023 : decode cL_law 1023 = .ok (.iconst 0, 1) := by decide +kernel
theorem dL_law_1024 : decode cL_law 1024 = .ok (.ireturn, 1) := by decide +kernel
theorem dL_law_1025 : decode cL_law 1025 = .ok (.aload_n 1, 1) := by decide +kernel
theorem dL_law_1026 : decode cL_law 1026 = .ok (.aload_n 0, 1) := by decide +kernel
theorem dL_law_1027 : decode cL_law 1027 = .ok (.iload_n 3, 1) := by decide +kernel
theorem dL_law_1028 : decode cL_law 1028 = .ok (.iconst 1, 1) := by decide +kernel
theorem dL_law_1029 : decode cL_law 1029 = .ok (.iadd, 1) := by decide +kernel
theorem dL_law_1030 : decode cL_law 1030 = .ok (.iaload, 1) := by decide +kernel
theorem dL_law_1031 : decode cL_law 1031 = .ok (.aload_n 0, 1) := by decide +kernel
theorem dL_law_1032 : decode cL_law 1032 = .ok (.iload_n 3, 1) := by decide +kernel
theorem dL_law_1033 : decode cL_law 1033 = .ok (.iconst 2, 1) := by decide +kernel
theorem dL_law_1034 : decode cL_law 1034 = .ok (.iadd, 1) := by decide +kernel
theorem dL_law_1035 : decode cL_law 1035 = .ok (.iaload, 1) := by decide +kernel
theorem dL_law_1036 : decode cL_law 1036 = .ok (.aload_n 0, 1) := by decide +kernel
theorem dL_law_1037 : decode cL_law 1037 = .ok (.iload_n 3, 1) := by decide +kernel
theorem dL_law_1038 : decode cL_law 1038 = .ok (.iconst 3, 1) := by decide +kernel
theorem dL_law_1039 : decode cL_law 1039 = .ok (.iadd, 1) := by decide +kernel
theorem dL_law_1040 : decode cL_law 1040 = .ok (.iaload, 1) := by decide +kernel
theorem dL_law_1041 : decode cL_law 1041 = .ok (.invokevirtual 133, 3) := by decide +kernel
theorem dL_law_1044 : decode cL_law 1044 = .ok (.aload_n 2, 1) := by decide +kernel
theorem dL_law_1045 : decode cL_law 1045 = .ok (.aload_n 0, 1) := by decide +kernel
theorem dL_law_1046 : decode cL_law 1046 = .ok (.iload_n 3, 1) := by decide +kernel
theorem dL_law_1047 : decode cL_law 1047 = .ok (.iconst 1, 1) := by decide +kernel
theorem dL_law_1048 : decode cL_law 1048 = .ok (.iadd, 1) := by decide +kernel
theorem dL_law_1049 : decode cL_law 1049 = .ok (.iaload, 1) := by decide +kernel
theorem dL_law_1050 : decode cL_law 1050 = .ok (.aload_n 0, 1) := by decide +kernel
theorem dL_law_1051 : decode cL_law 1051 = .ok (.iload_n 3, 1) := by decide +kernel
theorem dL_law_1052 : decode cL_law 1052 = .ok (.iconst 2, 1) := by decide +kernel
theorem dL_law_1053 : decode cL_law 1053 = .ok (.iadd, 1) := by decide +kernel
theorem dL_law_1054 : decode cL_law 1054 = .ok (.iaload, 1) := by decide +kernel
theorem dL_law_1055 : decode cL_law 1055 = .ok (.aload_n 0, 1) := by decide +kernel
theorem dL_law_1056 : decode cL_law 1056 = .ok (.iload_n 3, 1) := by decide +kernel
theorem dL_law_1057 : decode cL_law 1057 = .ok (.iconst 3, 1) := by decide +kernel
theorem dL_law_1058 : decode cL_law 1058 = .ok (.iadd, 1) := by decide +kernel
theorem dL_law_1059 : decode cL_law 1059 = .ok (.iaload, 1) := by decide +kernel
theorem dL_law_1060 : decode cL_law 1060 = .ok (.invokevirtual 136, 3) := by decide +kernel
theorem dL_law_1063 : decode cL_law 1063 = .ok (.if_icmp .eq 267, 3) := by decide +kernel
theorem dL_law_1066 : decode cL_law 1066 = .ok (.iconst 0, 1) := by decide +kernel
theorem dL_law_1067 : decode cL_law 1067 = .ok (.ireturn, 1) := by decide +kernel
theorem dL_law_1068 : decode cL_law 1068 = .ok (.aload_n 1, 1) := by decide +kernel
theorem dL_law_1069 : decode cL_law 1069 = .ok (.aload_n 0, 1) := by decide +kernel
theorem dL_law_1070 : decode cL_law 1070 = .ok (.iload_n 3, 1) := by decide +kernel
theorem dL_law_1071 : decode cL_law 1071 = .ok (.iconst 1, 1) := by decide +kernel
theorem dL_law_1072 : decode cL_law 1072 = .ok (.iadd, 1) := by decide +kernel
theorem dL_law_1073 : decode cL_law 1073 = .ok (.iaload, 1) := by decide +kernel
theorem dL_law_1074 : decode cL_law 1074 = .ok (.aload_n 0, 1) := by decide +kernel
theorem dL_law_1075 : decode cL_law 1075 = .ok (.iload_n 3, 1) := by decide +kernel
theorem dL_law_1076 : decode cL_law 1076 = .ok (.iconst 2, 1) := by decide +kernel
theorem dL_law_1077 : decode cL_law 1077 = .ok (.iadd, 1) := by decide +kernel
theorem dL_law_1078 : decode cL_law 1078 = .ok (.iaload, 1) := by decide +kernel
theorem dL_law_1079 : decode cL_law 1079 = .ok (.aload_n 0, 1) := by decide +kernel
theorem dL_law_1080 : decode cL_law 1080 = .ok (.iload_n 3, 1) := by decide +kernel
theorem dL_law_1081 : decode cL_law 1081 = .ok (.iconst 3, 1) := by decide +kernel
theorem dL_law_1082 : decode cL_law 1082 = .ok (.iadd, 1) := by decide +kernel
theorem dL_law_1083 : decode cL_law 1083 = .ok (.iaload, 1) := by decide +kernel
theorem dL_law_1084 : decode cL_law 1084 = .ok (.aload_n 0, 1) := by decide +kernel
theorem dL_law_1085 : decode cL_law 1085 = .ok (.iload_n 3, 1) := by decide +kernel
theorem dL_law_1086 : decode cL_law 1086 = .ok (.iconst 4, 1) := by decide +kernel
theorem dL_law_1087 : decode cL_law 1087 = .ok (.iadd, 1) := by decide +kernel
theorem dL_law_1088 : decode cL_law 1088 = .ok (.iaload, 1) := by decide +kernel
theorem dL_law_1089 : decode cL_law 1089 = .ok (.aload_n 0, 1) := by decide +kernel
theorem dL_law_1090 : decode cL_law 1090 = .ok (.iload_n 3, 1) := by decide +kernel
theorem dL_law_1091 : decode cL_law 1091 = .ok (.iconst 5, 1) := by decide +kernel
theorem dL_law_1092 : decode cL_law 1092 = .ok (.iadd, 1) := by decide +kernel
theorem dL_law_1093 : decode cL_law 1093 = .ok (.iaload, 1) := by decide +kernel
theorem dL_law_1094 : decode cL_law 1094 = .ok (.invokevirtual 137, 3) := by decide +kernel
theorem dL_law_1097 : decode cL_law 1097 = .ok (.aload_n 2, 1) := by decide +kernel
theorem dL_law_1098 : decode cL_law 1098 = .ok (.aload_n 0, 1) := by decide +kernel
theorem dL_law_1099 : decode cL_law 1099 = .ok (.iload_n 3, 1) := by decide +kernel
theorem dL_law_1100 : decode cL_law 1100 = .ok (.iconst 1, 1) := by decide +kernel
theorem dL_law_1101 : decode cL_law 1101 = .ok (.iadd, 1) := by decide +kernel
theorem dL_law_1102 : decode cL_law 1102 = .ok (.iaload, 1) := by decide +kernel
theorem dL_law_1103 : decode cL_law 1103 = .ok (.aload_n 0, 1) := by decide +kernel
theorem dL_law_1104 : decode cL_law 1104 = .ok (.iload_n 3, 1) := by decide +kernel
theorem dL_law_1105 : decode cL_law 1105 = .ok (.iconst 2, 1) := by decide +kernel
theorem dL_law_1106 : decode cL_law 1106 = .ok (.iadd, 1) := by decide +kernel
theorem dL_law_1107 : decode cL_law 1107 = .ok (.iaload, 1) := by decide +kernel
theorem dL_law_1108 : decode cL_law 1108 = .ok (.aload_n 0, 1) := by decide +kernel
theorem dL_law_1109 : decode cL_law 1109 = .ok (.iload_n 3, 1) := by decide +kernel
theorem dL_law_1110 : decode cL_law 1110 = .ok (.iconst 3, 1) := by decide +kernel
theorem dL_law_1111 : decode cL_law 1111 = .ok (.iadd, 1) := by decide +kernel
theorem dL_law_1112 : decode cL_law 1112 = .ok (.iaload, 1) := by decide +kernel
theorem dL_law_1113 : decode cL_law 1113 = .ok (.aload_n 0, 1) := by decide +kernel
theorem dL_law_1114 : decode cL_law 1114 = .ok (.iload_n 3, 1) := by decide +kernel
theorem dL_law_1115 : decode cL_law 1115 = .ok (.iconst 4, 1) := by decide +kernel
theorem dL_law_1116 : decode cL_law 1116 = .ok (.iadd, 1) := by decide +kernel
theorem dL_law_1117 : decode cL_law 1117 = .ok (.iaload, 1) := by decide +kernel
theorem dL_law_1118 : decode cL_law 1118 = .ok (.aload_n 0, 1) := by decide +kernel
theorem dL_law_1119 : decode cL_law 1119 = .ok (.iload_n 3, 1) := by decide +kernel
theorem dL_law_1120 : decode cL_law 1120 = .ok (.iconst 5, 1) := by decide +kernel
theorem dL_law_1121 : decode cL_law 1121 = .ok (.iadd, 1) := by decide +kernel
theorem dL_law_1122 : decode cL_law 1122 = .ok (.iaload, 1) := by decide +kernel
theorem dL_law_1123 : decode cL_law 1123 = .ok (.invokevirtual 141, 3) := by decide +kernel
theorem dL_law_1126 : decode cL_law 1126 = .ok (.lcmp, 1) := by decide +kernel
theorem dL_law_1127 : decode cL_law 1127 = .ok (.ifCond .eq 203, 3) := by decide +kernel
theorem dL_law_1130 : decode cL_law 1130 = .ok (.iconst 0, 1) := by decide +kernel
theorem dL_law_1131 : decode cL_law 1131 = .ok (.ireturn, 1) := by decide +kernel
theorem dL_law_1132 : decode cL_law 1132 = .ok (.aload_n 1, 1) := by decide +kernel
theorem dL_law_1133 : decode cL_law 1133 = .ok (.aload_n 0, 1) := by decide +kernel
theorem dL_law_1134 : decode cL_law 1134 = .ok (.iload_n 3, 1) := by decide +kernel
theorem dL_law_1135 : decode cL_law 1135 = .ok (.iconst 1, 1) := by decide +kernel
theorem dL_law_1136 : decode cL_law 1136 = .ok (.iadd, 1) := by decide +kernel
theorem dL_law_1137 : decode cL_law 1137 = .ok (.iaload, 1) := by decide +kernel
theorem dL_law_1138 : decode cL_law 1138 = .ok (.invokevirtual 142, 3) := by decide +kernel
theorem dL_law_1141 : decode cL_law 1141 = .ok (.aload_n 2, 1) := by decide +kernel
theorem dL_law_1142 : decode cL_law 1142 = .ok (.aload_n 0, 1) := by decide +kernel
theorem dL_law_1143 : decode cL_law 1143 = .ok (.iload_n 3, 1) := by decide +kernel
theorem dL_law_1144 : decode cL_law 1144 = .ok (.iconst 1, 1) := by decide +kernel
theorem dL_law_1145 : decode cL_law 1145 = .ok (.iadd, 1) := by decide +kernel
theorem dL_law_1146 : decode cL_law 1146 = .ok (.iaload, 1) := by decide +kernel
theorem dL_law_1147 : decode cL_law 1147 = .ok (.invokevirtual 146, 3) := by decide +kernel
theorem dL_law_1150 : decode cL_law 1150 = .ok (.lcmp, 1) := by decide +kernel
theorem dL_law_1151 : decode cL_law 1151 = .ok (.ifCond .eq 179, 3) := by decide +kernel
theorem dL_law_1154 : decode cL_law 1154 = .ok (.iconst 0, 1) := by decide +kernel
theorem dL_law_1155 : decode cL_law 1155 = .ok (.ireturn, 1) := by decide +kernel
theorem dL_law_1156 : decode cL_law 1156 = .ok (.aload_n 1, 1) := by decide +kernel
theorem dL_law_1157 : decode cL_law 1157 = .ok (.aload_n 0, 1) := by decide +kernel
theorem dL_law_1158 : decode cL_law 1158 = .ok (.iload_n 3, 1) := by decide +kernel
theorem dL_law_1159 : decode cL_law 1159 = .ok (.iconst 1, 1) := by decide +kernel
theorem dL_law_1160 : decode cL_law 1160 = .ok (.iadd, 1) := by decide +kernel
theorem dL_law_1161 : decode cL_law 1161 = .ok (.iaload, 1) := by decide +kernel
theorem dL_law_1162 : decode cL_law 1162 = .ok (.aload_n 0, 1) := by decide +kernel
theorem dL_law_1163 : decode cL_law 1163 = .ok (.iload_n 3, 1) := by decide +kernel
theorem dL_law_1164 : decode cL_law 1164 = .ok (.iconst 2, 1) := by decide +kernel
theorem dL_law_1165 : decode cL_law 1165 = .ok (.iadd, 1) := by decide +kernel
theorem dL_law_1166 : decode cL_law 1166 = .ok (.iaload, 1) := by decide +kernel
theorem dL_law_1167 : decode cL_law 1167 = .ok (.invokevirtual 147, 3) := by decide +kernel
theorem dL_law_1170 : decode cL_law 1170 = .ok (.aload_n 2, 1) := by decide +kernel
theorem dL_law_1171 : decode cL_law 1171 = .ok (.aload_n 0, 1) := by decide +kernel
theorem dL_law_1172 : decode cL_law 1172 = .ok (.iload_n 3, 1) := by decide +kernel
theorem dL_law_1173 : decode cL_law 1173 = .ok (.iconst 1, 1) := by decide +kernel
theorem dL_law_1174 : decode cL_law 1174 = .ok (.iadd, 1) := by decide +kernel
theorem dL_law_1175 : decode cL_law 1175 = .ok (.iaload, 1) := by decide +kernel
theorem dL_law_1176 : decode cL_law 1176 = .ok (.aload_n 0, 1) := by decide +kernel
theorem dL_law_1177 : decode cL_law 1177 = .ok (.iload_n 3, 1) := by decide +kernel
theorem dL_law_1178 : decode cL_law 1178 = .ok (.iconst 2, 1) := by decide +kernel
theorem dL_law_1179 : decode cL_law 1179 = .ok (.iadd, 1) := by decide +kernel
theorem dL_law_1180 : decode cL_law 1180 = .ok (.iaload, 1) := by decide +kernel
theorem dL_law_1181 : decode cL_law 1181 = .ok (.invokevirtual 150, 3) := by decide +kernel
theorem dL_law_1184 : decode cL_law 1184 = .ok (.if_icmp .eq 146, 3) := by decide +kernel
theorem dL_law_1187 : decode cL_law 1187 = .ok (.iconst 0, 1) := by decide +kernel
theorem dL_law_1188 : decode cL_law 1188 = .ok (.ireturn, 1) := by decide +kernel
theorem dL_law_1189 : decode cL_law 1189 = .ok (.aload_n 1, 1) := by decide +kernel
theorem dL_law_1190 : decode cL_law 1190 = .ok (.aload_n 0, 1) := by decide +kernel
theorem dL_law_1191 : decode cL_law 1191 = .ok (.iload_n 3, 1) := by decide +kernel
theorem dL_law_1192 : decode cL_law 1192 = .ok (.iconst 1, 1) := by decide +kernel
theorem dL_law_1193 : decode cL_law 1193 = .ok (.iadd, 1) := by decide +kernel
theorem dL_law_1194 : decode cL_law 1194 = .ok (.iaload, 1) := by decide +kernel
theorem dL_law_1195 : decode cL_law 1195 = .ok (.invokevirtual 151, 3) := by decide +kernel
theorem dL_law_1198 : decode cL_law 1198 = .ok (.aload_n 2, 1) := by decide +kernel
theorem dL_law_1199 : decode cL_law 1199 = .ok (.aload_n 0, 1) := by decide +kernel
theorem dL_law_1200 : decode cL_law 1200 = .ok (.iload_n 3, 1) := by decide +kernel
theorem dL_law_1201 : decode cL_law 1201 = .ok (.iconst 1, 1) := by decide +kernel
theorem dL_law_1202 : decode cL_law 1202 = .ok (.iadd, 1) := by decide +kernel
theorem dL_law_1203 : decode cL_law 1203 = .ok (.iaload, 1) := by decide +kernel
theorem dL_law_1204 : decode cL_law 1204 = .ok (.invokevirtual 154, 3) := by decide +kernel
theorem dL_law_1207 : decode cL_law 1207 = .ok (.if_icmp .eq 123, 3) := by decide +kernel
theorem dL_law_1210 : decode cL_law 1210 = .ok (.iconst 0, 1) := by decide +kernel
theorem dL_law_1211 : decode cL_law 1211 = .ok (.ireturn, 1) := by decide +kernel
theorem dL_law_1212 : decode cL_law 1212 = .ok (.aload_n 1, 1) := by decide +kernel
theorem dL_law_1213 : decode cL_law 1213 = .ok (.invokevirtual 155, 3) := by decide +kernel
theorem dL_law_1216 : decode cL_law 1216 = .ok (.aload_n 2, 1) := by decide +kernel
theorem dL_law_1217 : decode cL_law 1217 = .ok (.invokevirtual 158, 3) := by decide +kernel
theorem dL_law_1220 : decode cL_law 1220 = .ok (.if_icmp .eq 110, 3) := by decide +kernel
theorem dL_law_1223 : decode cL_law 1223 = .ok (.iconst 0, 1) := by decide +kernel
theorem dL_law_1224 : decode cL_law 1224 = .ok (.ireturn, 1) := by decide +kernel
theorem dL_law_1225 : decode cL_law 1225 = .ok (.aload_n 1, 1) := by decide +kernel
theorem dL_law_1226 : decode cL_law 1226 = .ok (.invokevirtual 159, 3) := by decide +kernel
theorem dL_law_1229 : decode cL_law 1229 = .ok (.aload_n 2, 1) := by decide +kernel
theorem dL_law_1230 : decode cL_law 1230 = .ok (.invokevirtual 162, 3) := by decide +kernel
theorem dL_law_1233 : decode cL_law 1233 = .ok (.if_icmp .eq 97, 3) := by decide +kernel
theorem dL_law_1236 : decode cL_law 1236 = .ok (.iconst 0, 1) := by decide +kernel
theorem dL_law_1237 : decode cL_law 1237 = .ok (.ireturn, 1) := by decide +kernel
theorem dL_law_1238 : decode cL_law 1238 = .ok (.aload_n 1, 1) := by decide +kernel
theorem dL_law_1239 : decode cL_law 1239 = .ok (.aload_n 0, 1) := by decide +kernel
theorem dL_law_1240 : decode cL_law 1240 = .ok (.iload_n 3, 1) := by decide +kernel
theorem dL_law_1241 : decode cL_law 1241 = .ok (.iconst 1, 1) := by decide +kernel
theorem dL_law_1242 : decode cL_law 1242 = .ok (.iadd, 1) := by decide +kernel
theorem dL_law_1243 : decode cL_law 1243 = .ok (.iaload, 1) := by decide +kernel
theorem dL_law_1244 : decode cL_law 1244 = .ok (.aload_n 0, 1) := by decide +kernel
theorem dL_law_1245 : decode cL_law 1245 = .ok (.iload_n 3, 1) := by decide +kernel
theorem dL_law_1246 : decode cL_law 1246 = .ok (.iconst 2, 1) := by decide +kernel
theorem dL_law_1247 : decode cL_law 1247 = .ok (.iadd, 1) := by decide +kernel
theorem dL_law_1248 : decode cL_law 1248 = .ok (.iaload, 1) := by decide +kernel
theorem dL_law_1249 : decode cL_law 1249 = .ok (.aload_n 0, 1) := by decide +kernel
theorem dL_law_1250 : decode cL_law 1250 = .ok (.iload_n 3, 1) := by decide +kernel
theorem dL_law_1251 : decode cL_law 1251 = .ok (.iconst 3, 1) := by decide +kernel
theorem dL_law_1252 : decode cL_law 1252 = .ok (.iadd, 1) := by decide +kernel
theorem dL_law_1253 : decode cL_law 1253 = .ok (.iaload, 1) := by decide +kernel
theorem dL_law_1254 : decode cL_law 1254 = .ok (.invokevirtual 163, 3) := by decide +kernel
theorem dL_law_1257 : decode cL_law 1257 = .ok (.aload_n 2, 1) := by decide +kernel
theorem dL_law_1258 : decode cL_law 1258 = .ok (.aload_n 0, 1) := by decide +kernel
theorem dL_law_1259 : decode cL_law 1259 = .ok (.iload_n 3, 1) := by decide +kernel
theorem dL_law_1260 : decode cL_law 1260 = .ok (.iconst 1, 1) := by decide +kernel
theorem dL_law_1261 : decode cL_law 1261 = .ok (.iadd, 1) := by decide +kernel
theorem dL_law_1262 : decode cL_law 1262 = .ok (.iaload, 1) := by decide +kernel
theorem dL_law_1263 : decode cL_law 1263 = .ok (.aload_n 0, 1) := by decide +kernel
theorem dL_law_1264 : decode cL_law 1264 = .ok (.iload_n 3, 1) := by decide +kernel
theorem dL_law_1265 : decode cL_law 1265 = .ok (.iconst 2, 1) := by decide +kernel
theorem dL_law_1266 : decode cL_law 1266 = .ok (.iadd, 1) := by decide +kernel
theorem dL_law_1267 : decode cL_law 1267 = .ok (.iaload, 1) := by decide +kernel
theorem dL_law_1268 : decode cL_law 1268 = .ok (.aload_n 0, 1) := by decide +kernel
theorem dL_law_1269 : decode cL_law 1269 = .ok (.iload_n 3, 1) := by decide +kernel
theorem dL_law_1270 : decode cL_law 1270 = .ok (.iconst 3, 1) := by decide +kernel
theorem dL_law_1271 : decode cL_law 1271 = .ok (.iadd, 1) := by decide +kernel
theorem dL_law_1272 : decode cL_law 1272 = .ok (.iaload, 1) := by decide +kernel
theorem dL_law_1273 : decode cL_law 1273 = .ok (.invokevirtual 166, 3) := by decide +kernel
theorem dL_law_1276 : decode cL_law 1276 = .ok (.if_icmp .eq 54, 3) := by decide +kernel
theorem dL_law_1279 : decode cL_law 1279 = .ok (.iconst 0, 1) := by decide +kernel
theorem dL_law_1280 : decode cL_law 1280 = .ok (.ireturn, 1) := by decide +kernel
theorem dL_law_1281 : decode cL_law 1281 = .ok (.aload_n 1, 1) := by decide +kernel
theorem dL_law_1282 : decode cL_law 1282 = .ok (.invokevirtual 167, 3) := by decide +kernel
theorem dL_law_1285 : decode cL_law 1285 = .ok (.aload_n 2, 1) := by decide +kernel
theorem dL_law_1286 : decode cL_law 1286 = .ok (.invokevirtual 170, 3) := by decide +kernel
theorem dL_law_1289 : decode cL_law 1289 = .ok (.if_icmp .eq 41, 3) := by decide +kernel
theorem dL_law_1292 : decode cL_law 1292 = .ok (.iconst 0, 1) := by decide +kernel
theorem dL_law_1293 : decode cL_law 1293 = .ok (.ireturn, 1) := by decide +kernel
theorem dL_law_1294 : decode cL_law 1294 = .ok (.aload_n 1, 1) := by decide +kernel
theorem dL_law_1295 : decode cL_law 1295 = .ok (.invokevirtual 171, 3) := by decide +kernel
theorem dL_law_1298 : decode cL_law 1298 = .ok (.aload_n 2, 1) := by decide +kernel
theorem dL_law_1299 : decode cL_law 1299 = .ok (.invokevirtual 174, 3) := by decide +kernel
theorem dL_law_1302 : decode cL_law 1302 = .ok (.if_icmp .eq 28, 3) := by decide +kernel
theorem dL_law_1305 : decode cL_law 1305 = .ok (.iconst 0, 1) := by decide +kernel
theorem dL_law_1306 : decode cL_law 1306 = .ok (.ireturn, 1) := by decide +kernel
theorem dL_law_1307 : decode cL_law 1307 = .ok (.aload_n 1, 1) := by decide +kernel
theorem dL_law_1308 : decode cL_law 1308 = .ok (.aload_n 0, 1) := by decide +kernel
theorem dL_law_1309 : decode cL_law 1309 = .ok (.iload_n 3, 1) := by decide +kernel
theorem dL_law_1310 : decode cL_law 1310 = .ok (.iconst 1, 1) := by decide +kernel
theorem dL_law_1311 : decode cL_law 1311 = .ok (.iadd, 1) := by decide +kernel
theorem dL_law_1312 : decode cL_law 1312 = .ok (.iaload, 1) := by decide +kernel
theorem dL_law_1313 : decode cL_law 1313 = .ok (.invokevirtual 175, 3) := by decide +kernel
theorem dL_law_1316 : decode cL_law 1316 = .ok (.aload_n 2, 1) := by decide +kernel
theorem dL_law_1317 : decode cL_law 1317 = .ok (.aload_n 0, 1) := by decide +kernel
theorem dL_law_1318 : decode cL_law 1318 = .ok (.iload_n 3, 1) := by decide +kernel
theorem dL_law_1319 : decode cL_law 1319 = .ok (.iconst 1, 1) := by decide +kernel
theorem dL_law_1320 : decode cL_law 1320 = .ok (.iadd, 1) := by decide +kernel
theorem dL_law_1321 : decode cL_law 1321 = .ok (.iaload, 1) := by decide +kernel
theorem dL_law_1322 : decode cL_law 1322 = .ok (.invokevirtual 178, 3) := by decide +kernel
theorem dL_law_1325 : decode cL_law 1325 = .ok (.if_icmp .eq 5, 3) := by decide +kernel
theorem dL_law_1328 : decode cL_law 1328 = .ok (.iconst 0, 1) := by decide +kernel
theorem dL_law_1329 : decode cL_law 1329 = .ok (.ireturn, 1) := by decide +kernel
theorem dL_law_1330 : decode cL_law 1330 = .ok (.iinc 3 6, 3) := by decide +kernel
theorem dL_law_1333 : decode cL_law 1333 = .ok (.goto (-1315), 3) := by decide +kernel
theorem dL_law_1336 : decode cL_law 1336 = .ok (.iconst 1, 1) := by decide +kernel
theorem dL_law_1337 : decode cL_law 1337 = .ok (.ireturn, 1) := by decide +kernel
end
section
/-! the judgement zk_R: a method of a class whose objects are all made, over a static shape; memory as numbers by object and slot -/
abbrev zk_Sh : Type := Nat × (Nat → Nat) × (Nat → Nat) × (Nat → Nat → Nat)
abbrev zk_M : Type := Nat → Nat → Int32
abbrev zk_L : Type := Nat → Nat → Int64
/-- a method: name, code, locals, answer, its class -/
abbrev zk_I : Type := MethodName × ByteArray × Nat × Option FieldType × String
def zk_isref (c k : Nat) : Bool := match c with
  | 0 => decide (k < 2)
  | 2 => true
  | 3 => decide (k = 0)
  | 4 => decide (k < 12)
  | 5 => decide (k < 5) || decide (6 ≤ k ∧ k < 9) || decide (12 ≤ k ∧ k < 14)
  | _ => false
def zk_nf (c : Nat) : Nat := match c with
  | 0 => 4
  | 1 => 7
  | 2 => 2
  | 3 => 2
  | 4 => 14
  | 5 => 15
  | _ => 0
def zk_mv (ad : Nat → Nat) (v : Value) : Value := match v with
  | .ref k => .ref (ad k)
  | v => v
theorem zk_mv_cat (ad : Nat → Nat) (v : Value) : (zk_mv ad v).category = v.category := by cases v <;> rfl
def zk_fv (ad : Nat → Nat) (σ : zk_Sh) (M : zk_M) (o k : Nat) : Value := if zk_isref (σ.2.1 o) k = true then .ref (ad (σ.2.2.2 o k)) else .int (M o k)
def zk_ent (ad : Nat → Nat) (cs : ClassId × ClassId × ClassId) (σ : zk_Sh) (M : zk_M) (L : zk_L) (o : Nat) : va_E :=
  if σ.2.1 o = 100 then .inl (cs.1, σ.2.2.1 o, .inl (M o))
  else if σ.2.1 o = 101 then .inl (cs.2.1, σ.2.2.1 o, .inr (.inl (L o)))
  else if σ.2.1 o = 102 then .inl (cs.2.2, σ.2.2.1 o, .inr (.inr (.inr (.inr (fun j => some (ad (σ.2.2.2 o j)))))))
  else .inr (σ.2.1 o, (List.range (zk_nf (σ.2.1 o))).map (zk_fv ad σ M o))
def zk_ws (ad : Nat → Nat) (cs : ClassId × ClassId × ClassId) (σ : zk_Sh) (M : zk_M) (L : zk_L) : va_W := (List.range σ.1).map (fun o => (ad o, zk_ent ad cs σ M L o))
def zk_ty (cs : ClassId × ClassId × ClassId) : List (ClassId × FieldType) := [(cs.1, .int), (cs.2.1, .long), (cs.2.2, .object RX1)]
def zk_A (σ : zk_Sh) (ad : Nat → Nat) (sz : Nat) : Nat → Prop := fun q => (∃ o, o < σ.1 ∧ q = ad o) ∨ sz ≤ q
def zk_tb : List Cond := lw_tbl.filter goodWord
def zk_nw : List Cond := lw_tbl.filter (fun w => match w with | .methodLinkNest _ _ _ _ => true | _ => false)
def zk_wd (μ : zk_I) : List Cond := .code μ.1 μ.2.1 μ.2.2.1 μ.2.2.2.1 :: zk_tb
def zk_rm (d : Nat) : Room := { frames := d, cells := 0, slots := 0, locals := 38 * d }
def zk_lv (lsA : Array Slot) (nL : Nat) (ad : Nat → Nat) (ls : List (Option Value)) : Prop := lsA.size = nL ∧ lv_wf lsA ∧ ls.length = nL ∧ ∀ (i : Nat) (v : Value), ls[i]? = some (some v) → lsA[i]? = some (.val (zk_mv ad v))
def zk_X (μ : zk_I) (cs : ClassId × ClassId × ClassId) (D : va_G) (p : Program) (s : State) (m : MethodId) (args : Array Value) (meth : Method) (c : Code) : Prop :=
  p.tables.exec = Jvm.exec ∧ c.code = μ.2.1 ∧ meth.sig.returnType = μ.2.2.2.1 ∧ c.maxLocals = μ.2.2.1 ∧ s.vm.findClass μ.2.2.2.2 = some m.cls ∧ (∀ w ∈ zk_tb, w.before args s = true) ∧ (∀ w ∈ zk_nw, va_Nw w s) ∧ meth.locks = false ∧ va_K D vwCl (zk_ty cs) s
def zk_H (σ : zk_Sh) (ad : Nat → Nat) (cs : ClassId × ClassId × ClassId) (D : va_G) (A : Nat → Prop) (M : zk_M) (L : zk_L) (H : Heap) : Prop := va_P D vwCl (zk_ws ad cs σ M L) H ∧ va_D A (zk_ws ad cs σ M L)
def zk_Q (σ : zk_Sh) (ad : Nat → Nat) (cs : ClassId × ClassId × ClassId) (D : va_G) (A : Nat → Prop) (Q : Option Value → zk_M → zk_L → Prop) : Array Value → State → Outcome → State → Prop := fun _ st oc t =>
  (∃ (r : Option Value) (M : zk_M) (L : zk_L), oc = .returned (r.map (zk_mv ad)) ∧ Q r M L ∧ zk_H σ ad cs D A M L t.heap ∧ va_K D vwCl (zk_ty cs) t) ∧ va_F A st t
/-- at pc with these locals and this stack, over this memory, the method comes to its end, with Q -/
def zk_R (l : Launch) (σ : zk_Sh) (d : Nat) (μ : zk_I) (pc : Nat) (ls : List (Option Value)) (st : List Value) (M : zk_M) (L : zk_L) (Q : Option Value → zk_M → zk_L → Prop) : Prop :=
  ∀ (p : Program) (e : Env) (s : State) (m : MethodId) (args : Array Value) (below : List Frame) (meth : Method) (c : Code) (ad : Nat → Nat) (cs : ClassId × ClassId × ClassId) (D : va_G) (H : Heap) (locs : List Loc) (lsA : Array Slot),
    zk_X μ cs D p s m args meth c → zk_H σ ad cs D (zk_A σ ad s.heap.size) M L H → va_S (zk_A σ ad s.heap.size) s.heap H locs → zk_lv lsA μ.2.2.1 ad ls →
    W p l e (zk_rm d) s m args below meth c H locs 0 0 (MQ below (zk_Q σ ad cs D (zk_A σ ad s.heap.size) Q) args s 0 0 (zk_A σ ad s.heap.size)) (F0 m pc lsA (st.map (zk_mv ad)))
/-- the contract of a method -/
def zk_C (l : Launch) (σ : zk_Sh) (d : Nat) (μ : zk_I) (as : List Value) (M : zk_M) (L : zk_L) (Q : Option Value → zk_M → zk_L → Prop) : Prop :=
  ∀ (ad : Nat → Nat) (cs : ClassId × ClassId × ClassId) (D : va_G) (sz : Nat), Met l μ.1 (zk_wd μ) (zk_rm d) (va_Pc (as.map (zk_mv ad)) (fun U => U.heap.size = sz ∧ zk_H σ ad cs D (fun _ => True) M L U.heap ∧ va_K D vwCl (zk_ty cs) U ∧ ∀ w ∈ zk_nw, va_Nw w U)) (zk_Q σ ad cs D (zk_A σ ad sz) Q) 0 0 (zk_A σ ad sz)
def zk_Ei (v : Int32) (M' : zk_M) (L' : zk_L) : Option Value → zk_M → zk_L → Prop := fun r M L => r = some (.int v) ∧ M = M' ∧ L = L'
def zk_El (v : Int64) (M' : zk_M) (L' : zk_L) : Option Value → zk_M → zk_L → Prop := fun r M L => r = some (.long v) ∧ M = M' ∧ L = L'
def zk_Ev (M' : zk_M) (L' : zk_L) : Option Value → zk_M → zk_L → Prop := fun r M L => r = none ∧ M = M' ∧ L = L'
theorem zk_in {w : Cond} (i : Nat) (h : lw_tbl[i]? = some w) (hg : goodWord w = true) : w ∈ zk_tb := List.mem_filter.mpr ⟨List.mem_of_getElem? h, hg⟩
theorem zk_good : ∀ w ∈ zk_tb, (w.onTables && w.keeps) = true ∨ ∃ ty, w = .arrayClass ty := fun _ h => good_of_word (List.mem_filter.mp h).2
theorem zk_at {ad : Nat → Nat} {cs : ClassId × ClassId × ClassId} {σ : zk_Sh} {M : zk_M} {L : zk_L} {o : Nat} (ho : o < σ.1) : (zk_ws ad cs σ M L)[o]? = some (ad o, zk_ent ad cs σ M L o) := by simp [zk_ws, ho]
theorem zk_ent_o {ad : Nat → Nat} {cs : ClassId × ClassId × ClassId} {σ : zk_Sh} {M : zk_M} {L : zk_L} {o c : Nat} (hc : σ.2.1 o = c) (h6 : c < 6) : zk_ent ad cs σ M L o = .inr (c, (List.range (zk_nf c)).map (zk_fv ad σ M o)) := by
  subst hc
  simp only [zk_ent]
  rw [if_neg (by omega), if_neg (by omega), if_neg (by omega)]
theorem zk_ent_i {ad : Nat → Nat} {cs : ClassId × ClassId × ClassId} {σ : zk_Sh} {M : zk_M} {L : zk_L} {o : Nat} (hc : σ.2.1 o = 100) : zk_ent ad cs σ M L o = .inl (cs.1, σ.2.2.1 o, .inl (M o)) := by simp [zk_ent, hc]
theorem zk_ent_l {ad : Nat → Nat} {cs : ClassId × ClassId × ClassId} {σ : zk_Sh} {M : zk_M} {L : zk_L} {o : Nat} (hc : σ.2.1 o = 101) : zk_ent ad cs σ M L o = .inl (cs.2.1, σ.2.2.1 o, .inr (.inl (L o))) := by simp [zk_ent, hc]
theorem zk_ent_q {ad : Nat → Nat} {cs : ClassId × ClassId × ClassId} {σ : zk_Sh} {M : zk_M} {L : zk_L} {o : Nat} (hc : σ.2.1 o = 102) : zk_ent ad cs σ M L o = .inl (cs.2.2, σ.2.2.1 o, .inr (.inr (.inr (.inr (fun j => some (ad (σ.2.2.2 o j))))))) := by simp [zk_ent, hc]
theorem zk_up_ne {α : Type} {f : Nat → α} {k j : Nat} {v : α} (h : j ≠ k) : va_up f k v j = f j := by simp [va_up, h]
theorem zk_up_eq {α : Type} {f : Nat → α} {k : Nat} {v : α} : va_up f k v k = v := by simp [va_up]
theorem zk_ent_congr {ad : Nat → Nat} {cs : ClassId × ClassId × ClassId} {σ : zk_Sh} {M M' : zk_M} {L L' : zk_L} {j : Nat} (h : M j = M' j) (h' : L j = L' j) : zk_ent ad cs σ M L j = zk_ent ad cs σ M' L' j := by
  have e : zk_fv ad σ M j = zk_fv ad σ M' j := by funext k; simp only [zk_fv, h]
  simp only [zk_ent, h, h', e]
theorem zk_setW {ad : Nat → Nat} {cs : ClassId × ClassId × ClassId} {σ : zk_Sh} {M M' : zk_M} {L L' : zk_L} {o : Nat} (hM : ∀ j, j ≠ o → M j = M' j) (hL : ∀ j, j ≠ o → L j = L' j) : (zk_ws ad cs σ M L).set o (ad o, zk_ent ad cs σ M' L' o) = zk_ws ad cs σ M' L' := by
  apply List.ext_getElem?
  intro j
  by_cases hj : j = o
  · subst hj
    by_cases hl : j < σ.1
    · rw [List.getElem?_set_self (by simp [zk_ws, hl]), zk_at hl]
    · rw [List.getElem?_eq_none (by simp [zk_ws]; omega), List.getElem?_eq_none (by simp [zk_ws]; omega)]
  · rw [List.getElem?_set_ne (fun h => hj h.symm)]
    by_cases hl : j < σ.1
    · rw [zk_at hl, zk_at hl, zk_ent_congr (hM j hj) (hL j hj)]
    · rw [List.getElem?_eq_none (by simp [zk_ws]; omega), List.getElem?_eq_none (by simp [zk_ws]; omega)]
theorem zk_setM {ad : Nat → Nat} {cs : ClassId × ClassId × ClassId} {σ : zk_Sh} {M : zk_M} {L : zk_L} {o : Nat} {f : Nat → Int32} : (zk_ws ad cs σ M L).set o (ad o, zk_ent ad cs σ (va_up M o f) L o) = zk_ws ad cs σ (va_up M o f) L := zk_setW (fun _ h => (zk_up_ne h).symm) (fun _ _ => rfl)
theorem zk_setL {ad : Nat → Nat} {cs : ClassId × ClassId × ClassId} {σ : zk_Sh} {M : zk_M} {L : zk_L} {o : Nat} {f : Nat → Int64} : (zk_ws ad cs σ M L).set o (ad o, zk_ent ad cs σ M (va_up L o f) o) = zk_ws ad cs σ M (va_up L o f) := zk_setW (fun _ _ => rfl) (fun _ h => (zk_up_ne h).symm)
/-! locals -/
def zk_g : List (Option Value) → Nat → Option Value
  | [], _ => none
  | a :: _, 0 => a
  | _ :: t, i + 1 => zk_g t i
theorem zk_g_get : ∀ {ls : List (Option Value)} {i : Nat} {v : Value}, zk_g ls i = some v → ls[i]? = some (some v)
  | [], i, v, h => by simp [zk_g] at h
  | a :: t, 0, v, h => by simp only [zk_g] at h; simp [h]
  | a :: t, i + 1, v, h => by simp only [zk_g] at h; simpa using zk_g_get h
def zk_nl (b : Option Value) : Bool := match b with
  | some v => v.category == 1
  | none => true
/-- ls' is ls with v (of one slot) at i -/
def zk_S (ls : List (Option Value)) (i : Nat) (ls' : List (Option Value)) (v : Value) : Prop := i < ls.length ∧ ls' = ls.set i (some v) ∧ ∀ (j : Nat) (w : Value), j + 1 = i → ls[j]? = some (some w) → w.category = 1
/-- ls' is ls with v (of two slots) at i -/
def zk_S2 (ls : List (Option Value)) (i : Nat) (ls' : List (Option Value)) (v : Value) : Prop := i + 1 < ls.length ∧ ls' = (ls.set i (some v)).set (i + 1) none ∧ ∀ (j : Nat) (w : Value), j + 1 = i → ls[j]? = some (some w) → w.category = 1
def zk_ll (ad : Nat → Nat) (ls : List (Option Value)) : List (Nat × Value) := ls.zipIdx.filterMap (fun q => q.1.map (fun v => (q.2, zk_mv ad v)))
theorem zk_ll_mem {ad : Nat → Nat} {ls : List (Option Value)} {i : Nat} {u : Value} : (i, u) ∈ zk_ll ad ls ↔ ∃ v, ls[i]? = some (some v) ∧ u = zk_mv ad v := by
  simp only [zk_ll, List.mem_filterMap]
  constructor
  · rintro ⟨⟨a, j⟩, h1, h2⟩
    rw [List.mem_zipIdx_iff_getElem?] at h1
    cases a with
    | none => simp at h2
    | some v =>
      simp only [Option.map_some, Option.some.injEq, Prod.mk.injEq] at h2
      obtain ⟨rfl, rfl⟩ := h2
      exact ⟨v, by simpa using h1, rfl⟩
  · rintro ⟨v, h1, rfl⟩
    exact ⟨(some v, i), by rw [List.mem_zipIdx_iff_getElem?]; simpa using h1, rfl⟩
theorem zk_lv_has {lsA : Array Slot} {nL : Nat} {ad : Nat → Nat} {ls : List (Option Value)} (h : zk_lv lsA nL ad ls) : lv_has lsA nL (zk_ll ad ls) := by
  refine ⟨h.1, h.2.1, fun q hq => ?_⟩
  obtain ⟨i, u⟩ := q
  obtain ⟨v, h1, rfl⟩ := zk_ll_mem.mp hq
  exact h.2.2.2 i v h1
theorem zk_lv_at {lsA : Array Slot} {nL : Nat} {ad : Nat → Nat} {ls : List (Option Value)} (h : zk_lv lsA nL ad ls) {i : Nat} {v : Value} (hg : zk_g ls i = some v) : lsA[i]? = some (.val (zk_mv ad v)) := h.2.2.2 i v (zk_g_get hg)
theorem zk_lv_set {lsA lsB : Array Slot} {nL i : Nat} {ad : Nat → Nat} {ls ls' : List (Option Value)} {v : Value} (h : zk_lv lsA nL ad ls) (hs : zk_S ls i ls' v)
    (h' : lv_has lsB nL ((i, zk_mv ad v) :: (zk_ll ad ls).filter (fun q => !(q.1 == i) && !(q.1 + 1 == i && q.2.category == 2)))) : zk_lv lsB nL ad ls' := by
  obtain ⟨hi, rfl, hp⟩ := hs
  refine ⟨h'.1, h'.2.1, by simp [h.2.2.1], fun j w hw => ?_⟩
  by_cases hj : j = i
  · subst hj
    rw [List.getElem?_set_self hi] at hw
    cases hw
    exact h'.2.2 (j, _) List.mem_cons_self
  · rw [List.getElem?_set_ne (fun e => hj e.symm)] at hw
    refine h'.2.2 (j, zk_mv ad w) (List.mem_cons_of_mem _ (List.mem_filter.mpr ⟨zk_ll_mem.mpr ⟨w, hw, rfl⟩, ?_⟩))
    have hc : j + 1 = i → w.category = 1 := fun e => hp j w e hw
    by_cases e : j + 1 = i
    · simp [hj, zk_mv_cat, hc e]
    · simp [hj, e]
theorem zk_lv_set2 {lsA lsB : Array Slot} {nL i : Nat} {ad : Nat → Nat} {ls ls' : List (Option Value)} {v : Value} (h : zk_lv lsA nL ad ls) (hs : zk_S2 ls i ls' v)
    (h' : lv_has lsB nL ((i, zk_mv ad v) :: (zk_ll ad ls).filter (fun q => !(q.1 == i) && (!(q.1 == i + 1) && !(q.1 + 1 == i && q.2.category == 2))))) : zk_lv lsB nL ad ls' := by
  obtain ⟨hi, rfl, hp⟩ := hs
  refine ⟨h'.1, h'.2.1, by simp [h.2.2.1], fun j w hw => ?_⟩
  by_cases hj1 : j = i + 1
  · subst hj1
    rw [List.getElem?_set_self (by simpa using hi)] at hw
    cases hw
  · rw [List.getElem?_set_ne (fun e => hj1 e.symm)] at hw
    by_cases hj : j = i
    · subst hj
      rw [List.getElem?_set_self (by omega)] at hw
      cases hw
      exact h'.2.2 (j, _) List.mem_cons_self
    · rw [List.getElem?_set_ne (fun e => hj e.symm)] at hw
      refine h'.2.2 (j, zk_mv ad w) (List.mem_cons_of_mem _ (List.mem_filter.mpr ⟨zk_ll_mem.mpr ⟨w, hw, rfl⟩, ?_⟩))
      have hc : j + 1 = i → w.category = 1 := fun e => hp j w e hw
      by_cases e : j + 1 = i
      · simp [hj, hj1, zk_mv_cat, hc e]
      · simp [hj, hj1, e]
/-- fewer locals known -/
def zk_le : List (Option Value) → List (Option Value) → Prop
  | [], [] => True
  | a :: s, b :: t => (b = none ∨ a = b) ∧ zk_le s t
  | _, _ => False
theorem zk_le_get : ∀ {s t : List (Option Value)}, zk_le s t → s.length = t.length ∧ ∀ (i : Nat) (v : Value), t[i]? = some (some v) → s[i]? = some (some v)
  | [], [], _ => ⟨rfl, fun i v h => h⟩
  | a :: s, b :: t, h => by
    obtain ⟨h1, h2⟩ := zk_le_get h.2
    refine ⟨by simp [h1], fun i v hv => ?_⟩
    cases i with
    | zero =>
      rcases h.1 with e | e
      · subst e; simp at hv
      · subst e; exact hv
    | succ i => simpa using h2 i v (by simpa using hv)
  | [], _ :: _, h => h.elim
  | _ :: _, [], h => h.elim
theorem zk_forget {l : Launch} {σ : zk_Sh} {d : Nat} {μ : zk_I} {pc : Nat} {ls ls' : List (Option Value)} {st : List Value} {M : zk_M} {L : zk_L} {Q : Option Value → zk_M → zk_L → Prop} (h : zk_le ls ls') (k : zk_R l σ d μ pc ls' st M L Q) : zk_R l σ d μ pc ls st M L Q := by
  intro p e s m args below meth c ad cs D H locs lsA X hH hS hl
  obtain ⟨h1, h2⟩ := zk_le_get h
  exact k p e s m args below meth c ad cs D H locs lsA X hH hS ⟨hl.1, hl.2.1, by rw [← h1]; exact hl.2.2.1, fun i v hv => hl.2.2.2 i v (h2 i v hv)⟩
theorem zk_post {l : Launch} {σ : zk_Sh} {d : Nat} {μ : zk_I} {pc : Nat} {ls : List (Option Value)} {st : List Value} {M M' : zk_M} {L L' : zk_L} {Q : Option Value → zk_M → zk_L → Prop} (hM : M = M') (hL : L = L') (k : zk_R l σ d μ pc ls st M' L' Q) : zk_R l σ d μ pc ls st M L Q := by subst hM; subst hL; exact k
theorem zk_S_0 {a0 : Option Value} {t : List (Option Value)} {v : Value} : zk_S (a0 :: t) 0 (some v :: t) v := by
  exact ⟨by simp, by simp, fun j w e => by omega⟩
theorem zk_S_1 {a0 a1 : Option Value} {t : List (Option Value)} {v : Value} (h : zk_nl a0 = true := by rfl) : zk_S (a0 :: a1 :: t) 1 (a0 :: some v :: t) v := by
  refine ⟨by simp, by simp, fun j w e hw => ?_⟩
  obtain rfl : j = 0 := by omega
  simp at hw
  subst hw
  simpa [zk_nl] using h
theorem zk_S_2 {a0 a1 a2 : Option Value} {t : List (Option Value)} {v : Value} (h : zk_nl a1 = true := by rfl) : zk_S (a0 :: a1 :: a2 :: t) 2 (a0 :: a1 :: some v :: t) v := by
  refine ⟨by simp, by simp, fun j w e hw => ?_⟩
  obtain rfl : j = 1 := by omega
  simp at hw
  subst hw
  simpa [zk_nl] using h
theorem zk_S_3 {a0 a1 a2 a3 : Option Value} {t : List (Option Value)} {v : Value} (h : zk_nl a2 = true := by rfl) : zk_S (a0 :: a1 :: a2 :: a3 :: t) 3 (a0 :: a1 :: a2 :: some v :: t) v := by
  refine ⟨by simp, by simp, fun j w e hw => ?_⟩
  obtain rfl : j = 2 := by omega
  simp at hw
  subst hw
  simpa [zk_nl] using h
theorem zk_S_4 {a0 a1 a2 a3 a4 : Option Value} {t : List (Option Value)} {v : Value} (h : zk_nl a3 = true := by rfl) : zk_S (a0 :: a1 :: a2 :: a3 :: a4 :: t) 4 (a0 :: a1 :: a2 :: a3 :: some v :: t) v := by
  refine ⟨by simp, by simp, fun j w e hw => ?_⟩
  obtain rfl : j = 3 := by omega
  simp at hw
  subst hw
  simpa [zk_nl] using h
theorem zk_S_5 {a0 a1 a2 a3 a4 a5 : Option Value} {t : List (Option Value)} {v : Value} (h : zk_nl a4 = true := by rfl) : zk_S (a0 :: a1 :: a2 :: a3 :: a4 :: a5 :: t) 5 (a0 :: a1 :: a2 :: a3 :: a4 :: some v :: t) v := by
  refine ⟨by simp, by simp, fun j w e hw => ?_⟩
  obtain rfl : j = 4 := by omega
  simp at hw
  subst hw
  simpa [zk_nl] using h
theorem zk_S_6 {a0 a1 a2 a3 a4 a5 a6 : Option Value} {t : List (Option Value)} {v : Value} (h : zk_nl a5 = true := by rfl) : zk_S (a0 :: a1 :: a2 :: a3 :: a4 :: a5 :: a6 :: t) 6 (a0 :: a1 :: a2 :: a3 :: a4 :: a5 :: some v :: t) v := by
  refine ⟨by simp, by simp, fun j w e hw => ?_⟩
  obtain rfl : j = 5 := by omega
  simp at hw
  subst hw
  simpa [zk_nl] using h
theorem zk_S_7 {a0 a1 a2 a3 a4 a5 a6 a7 : Option Value} {t : List (Option Value)} {v : Value} (h : zk_nl a6 = true := by rfl) : zk_S (a0 :: a1 :: a2 :: a3 :: a4 :: a5 :: a6 :: a7 :: t) 7 (a0 :: a1 :: a2 :: a3 :: a4 :: a5 :: a6 :: some v :: t) v := by
  refine ⟨by simp, by simp, fun j w e hw => ?_⟩
  obtain rfl : j = 6 := by omega
  simp at hw
  subst hw
  simpa [zk_nl] using h
theorem zk_S_8 {a0 a1 a2 a3 a4 a5 a6 a7 a8 : Option Value} {t : List (Option Value)} {v : Value} (h : zk_nl a7 = true := by rfl) : zk_S (a0 :: a1 :: a2 :: a3 :: a4 :: a5 :: a6 :: a7 :: a8 :: t) 8 (a0 :: a1 :: a2 :: a3 :: a4 :: a5 :: a6 :: a7 :: some v :: t) v := by
  refine ⟨by simp, by simp, fun j w e hw => ?_⟩
  obtain rfl : j = 7 := by omega
  simp at hw
  subst hw
  simpa [zk_nl] using h
theorem zk_S_9 {a0 a1 a2 a3 a4 a5 a6 a7 a8 a9 : Option Value} {t : List (Option Value)} {v : Value} (h : zk_nl a8 = true := by rfl) : zk_S (a0 :: a1 :: a2 :: a3 :: a4 :: a5 :: a6 :: a7 :: a8 :: a9 :: t) 9 (a0 :: a1 :: a2 :: a3 :: a4 :: a5 :: a6 :: a7 :: a8 :: some v :: t) v := by
  refine ⟨by simp, by simp, fun j w e hw => ?_⟩
  obtain rfl : j = 8 := by omega
  simp at hw
  subst hw
  simpa [zk_nl] using h
theorem zk_S_10 {a0 a1 a2 a3 a4 a5 a6 a7 a8 a9 a10 : Option Value} {t : List (Option Value)} {v : Value} (h : zk_nl a9 = true := by rfl) : zk_S (a0 :: a1 :: a2 :: a3 :: a4 :: a5 :: a6 :: a7 :: a8 :: a9 :: a10 :: t) 10 (a0 :: a1 :: a2 :: a3 :: a4 :: a5 :: a6 :: a7 :: a8 :: a9 :: some v :: t) v := by
  refine ⟨by simp, by simp, fun j w e hw => ?_⟩
  obtain rfl : j = 9 := by omega
  simp at hw
  subst hw
  simpa [zk_nl] using h
theorem zk_S_11 {a0 a1 a2 a3 a4 a5 a6 a7 a8 a9 a10 a11 : Option Value} {t : List (Option Value)} {v : Value} (h : zk_nl a10 = true := by rfl) : zk_S (a0 :: a1 :: a2 :: a3 :: a4 :: a5 :: a6 :: a7 :: a8 :: a9 :: a10 :: a11 :: t) 11 (a0 :: a1 :: a2 :: a3 :: a4 :: a5 :: a6 :: a7 :: a8 :: a9 :: a10 :: some v :: t) v := by
  refine ⟨by simp, by simp, fun j w e hw => ?_⟩
  obtain rfl : j = 10 := by omega
  simp at hw
  subst hw
  simpa [zk_nl] using h
theorem zk_S_12 {a0 a1 a2 a3 a4 a5 a6 a7 a8 a9 a10 a11 a12 : Option Value} {t : List (Option Value)} {v : Value} (h : zk_nl a11 = true := by rfl) : zk_S (a0 :: a1 :: a2 :: a3 :: a4 :: a5 :: a6 :: a7 :: a8 :: a9 :: a10 :: a11 :: a12 :: t) 12 (a0 :: a1 :: a2 :: a3 :: a4 :: a5 :: a6 :: a7 :: a8 :: a9 :: a10 :: a11 :: some v :: t) v := by
  refine ⟨by simp, by simp, fun j w e hw => ?_⟩
  obtain rfl : j = 11 := by omega
  simp at hw
  subst hw
  simpa [zk_nl] using h
theorem zk_S_13 {a0 a1 a2 a3 a4 a5 a6 a7 a8 a9 a10 a11 a12 a13 : Option Value} {t : List (Option Value)} {v : Value} (h : zk_nl a12 = true := by rfl) : zk_S (a0 :: a1 :: a2 :: a3 :: a4 :: a5 :: a6 :: a7 :: a8 :: a9 :: a10 :: a11 :: a12 :: a13 :: t) 13 (a0 :: a1 :: a2 :: a3 :: a4 :: a5 :: a6 :: a7 :: a8 :: a9 :: a10 :: a11 :: a12 :: some v :: t) v := by
  refine ⟨by simp, by simp, fun j w e hw => ?_⟩
  obtain rfl : j = 12 := by omega
  simp at hw
  subst hw
  simpa [zk_nl] using h
theorem zk_S2_0 {a0 a1 : Option Value} {t : List (Option Value)} {v : Value} : zk_S2 (a0 :: a1 :: t) 0 (some v :: none :: t) v := by
  exact ⟨by simp, by simp, fun j w e => by omega⟩
theorem zk_S2_1 {a0 a1 a2 : Option Value} {t : List (Option Value)} {v : Value} (h : zk_nl a0 = true := by rfl) : zk_S2 (a0 :: a1 :: a2 :: t) 1 (a0 :: some v :: none :: t) v := by
  refine ⟨by simp, by simp, fun j w e hw => ?_⟩
  obtain rfl : j = 0 := by omega
  simp at hw
  subst hw
  simpa [zk_nl] using h
theorem zk_S2_2 {a0 a1 a2 a3 : Option Value} {t : List (Option Value)} {v : Value} (h : zk_nl a1 = true := by rfl) : zk_S2 (a0 :: a1 :: a2 :: a3 :: t) 2 (a0 :: a1 :: some v :: none :: t) v := by
  refine ⟨by simp, by simp, fun j w e hw => ?_⟩
  obtain rfl : j = 1 := by omega
  simp at hw
  subst hw
  simpa [zk_nl] using h
theorem zk_S2_3 {a0 a1 a2 a3 a4 : Option Value} {t : List (Option Value)} {v : Value} (h : zk_nl a2 = true := by rfl) : zk_S2 (a0 :: a1 :: a2 :: a3 :: a4 :: t) 3 (a0 :: a1 :: a2 :: some v :: none :: t) v := by
  refine ⟨by simp, by simp, fun j w e hw => ?_⟩
  obtain rfl : j = 2 := by omega
  simp at hw
  subst hw
  simpa [zk_nl] using h
theorem zk_S2_4 {a0 a1 a2 a3 a4 a5 : Option Value} {t : List (Option Value)} {v : Value} (h : zk_nl a3 = true := by rfl) : zk_S2 (a0 :: a1 :: a2 :: a3 :: a4 :: a5 :: t) 4 (a0 :: a1 :: a2 :: a3 :: some v :: none :: t) v := by
  refine ⟨by simp, by simp, fun j w e hw => ?_⟩
  obtain rfl : j = 3 := by omega
  simp at hw
  subst hw
  simpa [zk_nl] using h
theorem zk_S2_5 {a0 a1 a2 a3 a4 a5 a6 : Option Value} {t : List (Option Value)} {v : Value} (h : zk_nl a4 = true := by rfl) : zk_S2 (a0 :: a1 :: a2 :: a3 :: a4 :: a5 :: a6 :: t) 5 (a0 :: a1 :: a2 :: a3 :: a4 :: some v :: none :: t) v := by
  refine ⟨by simp, by simp, fun j w e hw => ?_⟩
  obtain rfl : j = 4 := by omega
  simp at hw
  subst hw
  simpa [zk_nl] using h
theorem zk_S2_6 {a0 a1 a2 a3 a4 a5 a6 a7 : Option Value} {t : List (Option Value)} {v : Value} (h : zk_nl a5 = true := by rfl) : zk_S2 (a0 :: a1 :: a2 :: a3 :: a4 :: a5 :: a6 :: a7 :: t) 6 (a0 :: a1 :: a2 :: a3 :: a4 :: a5 :: some v :: none :: t) v := by
  refine ⟨by simp, by simp, fun j w e hw => ?_⟩
  obtain rfl : j = 5 := by omega
  simp at hw
  subst hw
  simpa [zk_nl] using h
theorem zk_S2_7 {a0 a1 a2 a3 a4 a5 a6 a7 a8 : Option Value} {t : List (Option Value)} {v : Value} (h : zk_nl a6 = true := by rfl) : zk_S2 (a0 :: a1 :: a2 :: a3 :: a4 :: a5 :: a6 :: a7 :: a8 :: t) 7 (a0 :: a1 :: a2 :: a3 :: a4 :: a5 :: a6 :: some v :: none :: t) v := by
  refine ⟨by simp, by simp, fun j w e hw => ?_⟩
  obtain rfl : j = 6 := by omega
  simp at hw
  subst hw
  simpa [zk_nl] using h
theorem zk_S2_8 {a0 a1 a2 a3 a4 a5 a6 a7 a8 a9 : Option Value} {t : List (Option Value)} {v : Value} (h : zk_nl a7 = true := by rfl) : zk_S2 (a0 :: a1 :: a2 :: a3 :: a4 :: a5 :: a6 :: a7 :: a8 :: a9 :: t) 8 (a0 :: a1 :: a2 :: a3 :: a4 :: a5 :: a6 :: a7 :: some v :: none :: t) v := by
  refine ⟨by simp, by simp, fun j w e hw => ?_⟩
  obtain rfl : j = 7 := by omega
  simp at hw
  subst hw
  simpa [zk_nl] using h
theorem zk_S2_9 {a0 a1 a2 a3 a4 a5 a6 a7 a8 a9 a10 : Option Value} {t : List (Option Value)} {v : Value} (h : zk_nl a8 = true := by rfl) : zk_S2 (a0 :: a1 :: a2 :: a3 :: a4 :: a5 :: a6 :: a7 :: a8 :: a9 :: a10 :: t) 9 (a0 :: a1 :: a2 :: a3 :: a4 :: a5 :: a6 :: a7 :: a8 :: some v :: none :: t) v := by
  refine ⟨by simp, by simp, fun j w e hw => ?_⟩
  obtain rfl : j = 8 := by omega
  simp at hw
  subst hw
  simpa [zk_nl] using h
theorem zk_S2_10 {a0 a1 a2 a3 a4 a5 a6 a7 a8 a9 a10 a11 : Option Value} {t : List (Option Value)} {v : Value} (h : zk_nl a9 = true := by rfl) : zk_S2 (a0 :: a1 :: a2 :: a3 :: a4 :: a5 :: a6 :: a7 :: a8 :: a9 :: a10 :: a11 :: t) 10 (a0 :: a1 :: a2 :: a3 :: a4 :: a5 :: a6 :: a7 :: a8 :: a9 :: some v :: none :: t) v := by
  refine ⟨by simp, by simp, fun j w e hw => ?_⟩
  obtain rfl : j = 9 := by omega
  simp at hw
  subst hw
  simpa [zk_nl] using h
theorem zk_S2_11 {a0 a1 a2 a3 a4 a5 a6 a7 a8 a9 a10 a11 a12 : Option Value} {t : List (Option Value)} {v : Value} (h : zk_nl a10 = true := by rfl) : zk_S2 (a0 :: a1 :: a2 :: a3 :: a4 :: a5 :: a6 :: a7 :: a8 :: a9 :: a10 :: a11 :: a12 :: t) 11 (a0 :: a1 :: a2 :: a3 :: a4 :: a5 :: a6 :: a7 :: a8 :: a9 :: a10 :: some v :: none :: t) v := by
  refine ⟨by simp, by simp, fun j w e hw => ?_⟩
  obtain rfl : j = 10 := by omega
  simp at hw
  subst hw
  simpa [zk_nl] using h
theorem zk_S2_12 {a0 a1 a2 a3 a4 a5 a6 a7 a8 a9 a10 a11 a12 a13 : Option Value} {t : List (Option Value)} {v : Value} (h : zk_nl a11 = true := by rfl) : zk_S2 (a0 :: a1 :: a2 :: a3 :: a4 :: a5 :: a6 :: a7 :: a8 :: a9 :: a10 :: a11 :: a12 :: a13 :: t) 12 (a0 :: a1 :: a2 :: a3 :: a4 :: a5 :: a6 :: a7 :: a8 :: a9 :: a10 :: a11 :: some v :: none :: t) v := by
  refine ⟨by simp, by simp, fun j w e hw => ?_⟩
  obtain rfl : j = 11 := by omega
  simp at hw
  subst hw
  simpa [zk_nl] using h
theorem zk_S2_13 {a0 a1 a2 a3 a4 a5 a6 a7 a8 a9 a10 a11 a12 a13 a14 : Option Value} {t : List (Option Value)} {v : Value} (h : zk_nl a12 = true := by rfl) : zk_S2 (a0 :: a1 :: a2 :: a3 :: a4 :: a5 :: a6 :: a7 :: a8 :: a9 :: a10 :: a11 :: a12 :: a13 :: a14 :: t) 13 (a0 :: a1 :: a2 :: a3 :: a4 :: a5 :: a6 :: a7 :: a8 :: a9 :: a10 :: a11 :: a12 :: some v :: none :: t) v := by
  refine ⟨by simp, by simp, fun j w e hw => ?_⟩
  obtain rfl : j = 12 := by omega
  simp at hw
  subst hw
  simpa [zk_nl] using h
end
section
section ZKR
variable {l : Launch} {σ : zk_Sh} {d : Nat} {μ : zk_I} {pc : Nat} {ls ls' : List (Option Value)} {rest : List Value} {M : zk_M} {L : zk_L} {Q : Option Value → zk_M → zk_L → Prop}
theorem zk_iadd {x y : Int32} (hd : decode μ.2.1 pc = .ok (.iadd, 1)) (kk : zk_R l σ d μ (pc + 1) ls (.int (x + y) :: rest) M L Q) : zk_R l σ d μ (pc) ls (.int y :: .int x :: rest) M L Q := by
  intro p e s m args below meth c ad cs D H locs lsA X hH hS hl
  exact lv_iadd X.1 X.2.1 hd (kk p e s m args below meth c ad cs D H locs lsA X hH hS hl)
theorem zk_isub {x y : Int32} (hd : decode μ.2.1 pc = .ok (.isub, 1)) (kk : zk_R l σ d μ (pc + 1) ls (.int (x - y) :: rest) M L Q) : zk_R l σ d μ (pc) ls (.int y :: .int x :: rest) M L Q := by
  intro p e s m args below meth c ad cs D H locs lsA X hH hS hl
  exact lv_isub X.1 X.2.1 hd (kk p e s m args below meth c ad cs D H locs lsA X hH hS hl)
theorem zk_imul {x y : Int32} (hd : decode μ.2.1 pc = .ok (.imul, 1)) (kk : zk_R l σ d μ (pc + 1) ls (.int (x * y) :: rest) M L Q) : zk_R l σ d μ (pc) ls (.int y :: .int x :: rest) M L Q := by
  intro p e s m args below meth c ad cs D H locs lsA X hH hS hl
  exact lv_imul X.1 X.2.1 hd (kk p e s m args below meth c ad cs D H locs lsA X hH hS hl)
theorem zk_iand {x y : Int32} (hd : decode μ.2.1 pc = .ok (.iand, 1)) (kk : zk_R l σ d μ (pc + 1) ls (.int (x &&& y) :: rest) M L Q) : zk_R l σ d μ (pc) ls (.int y :: .int x :: rest) M L Q := by
  intro p e s m args below meth c ad cs D H locs lsA X hH hS hl
  exact lv_iand X.1 X.2.1 hd (kk p e s m args below meth c ad cs D H locs lsA X hH hS hl)
theorem zk_ior {x y : Int32} (hd : decode μ.2.1 pc = .ok (.ior, 1)) (kk : zk_R l σ d μ (pc + 1) ls (.int (x ||| y) :: rest) M L Q) : zk_R l σ d μ (pc) ls (.int y :: .int x :: rest) M L Q := by
  intro p e s m args below meth c ad cs D H locs lsA X hH hS hl
  exact lv_ior X.1 X.2.1 hd (kk p e s m args below meth c ad cs D H locs lsA X hH hS hl)
theorem zk_ixor {x y : Int32} (hd : decode μ.2.1 pc = .ok (.ixor, 1)) (kk : zk_R l σ d μ (pc + 1) ls (.int (x ^^^ y) :: rest) M L Q) : zk_R l σ d μ (pc) ls (.int y :: .int x :: rest) M L Q := by
  intro p e s m args below meth c ad cs D H locs lsA X hH hS hl
  exact lv_ixor X.1 X.2.1 hd (kk p e s m args below meth c ad cs D H locs lsA X hH hS hl)
theorem zk_ladd {x y : Int64} (hd : decode μ.2.1 pc = .ok (.ladd, 1)) (kk : zk_R l σ d μ (pc + 1) ls (.long (x + y) :: rest) M L Q) : zk_R l σ d μ (pc) ls (.long y :: .long x :: rest) M L Q := by
  intro p e s m args below meth c ad cs D H locs lsA X hH hS hl
  exact lv_ladd X.1 X.2.1 hd (kk p e s m args below meth c ad cs D H locs lsA X hH hS hl)
theorem zk_lsub {x y : Int64} (hd : decode μ.2.1 pc = .ok (.lsub, 1)) (kk : zk_R l σ d μ (pc + 1) ls (.long (x - y) :: rest) M L Q) : zk_R l σ d μ (pc) ls (.long y :: .long x :: rest) M L Q := by
  intro p e s m args below meth c ad cs D H locs lsA X hH hS hl
  exact lv_lsub X.1 X.2.1 hd (kk p e s m args below meth c ad cs D H locs lsA X hH hS hl)
theorem zk_lmul {x y : Int64} (hd : decode μ.2.1 pc = .ok (.lmul, 1)) (kk : zk_R l σ d μ (pc + 1) ls (.long (x * y) :: rest) M L Q) : zk_R l σ d μ (pc) ls (.long y :: .long x :: rest) M L Q := by
  intro p e s m args below meth c ad cs D H locs lsA X hH hS hl
  exact lv_lmul X.1 X.2.1 hd (kk p e s m args below meth c ad cs D H locs lsA X hH hS hl)
theorem zk_land {x y : Int64} (hd : decode μ.2.1 pc = .ok (.land, 1)) (kk : zk_R l σ d μ (pc + 1) ls (.long (x &&& y) :: rest) M L Q) : zk_R l σ d μ (pc) ls (.long y :: .long x :: rest) M L Q := by
  intro p e s m args below meth c ad cs D H locs lsA X hH hS hl
  exact lv_land X.1 X.2.1 hd (kk p e s m args below meth c ad cs D H locs lsA X hH hS hl)
theorem zk_lor {x y : Int64} (hd : decode μ.2.1 pc = .ok (.lor, 1)) (kk : zk_R l σ d μ (pc + 1) ls (.long (x ||| y) :: rest) M L Q) : zk_R l σ d μ (pc) ls (.long y :: .long x :: rest) M L Q := by
  intro p e s m args below meth c ad cs D H locs lsA X hH hS hl
  exact lv_lor X.1 X.2.1 hd (kk p e s m args below meth c ad cs D H locs lsA X hH hS hl)
theorem zk_idiv {x y : Int32} (hd : decode μ.2.1 pc = .ok (.idiv, 1)) (hne : ¬ y = 0) (kk : zk_R l σ d μ (pc + 1) ls (.int (x / y) :: rest) M L Q) : zk_R l σ d μ (pc) ls (.int y :: .int x :: rest) M L Q := by
  intro p e s m args below meth c ad cs D H locs lsA X hH hS hl
  exact lv_idiv X.1 X.2.1 hd hne (kk p e s m args below meth c ad cs D H locs lsA X hH hS hl)
theorem zk_irem {x y : Int32} (hd : decode μ.2.1 pc = .ok (.irem, 1)) (hne : ¬ y = 0) (kk : zk_R l σ d μ (pc + 1) ls (.int (x - x / y * y) :: rest) M L Q) : zk_R l σ d μ (pc) ls (.int y :: .int x :: rest) M L Q := by
  intro p e s m args below meth c ad cs D H locs lsA X hH hS hl
  exact lv_irem X.1 X.2.1 hd hne (kk p e s m args below meth c ad cs D H locs lsA X hH hS hl)
theorem zk_ldiv {x y : Int64} (hd : decode μ.2.1 pc = .ok (.ldiv, 1)) (hne : ¬ y = 0) (kk : zk_R l σ d μ (pc + 1) ls (.long (x / y) :: rest) M L Q) : zk_R l σ d μ (pc) ls (.long y :: .long x :: rest) M L Q := by
  intro p e s m args below meth c ad cs D H locs lsA X hH hS hl
  exact lv_ldiv X.1 X.2.1 hd hne (kk p e s m args below meth c ad cs D H locs lsA X hH hS hl)
theorem zk_lrem {x y : Int64} (hd : decode μ.2.1 pc = .ok (.lrem, 1)) (hne : ¬ y = 0) (kk : zk_R l σ d μ (pc + 1) ls (.long (x - x / y * y) :: rest) M L Q) : zk_R l σ d μ (pc) ls (.long y :: .long x :: rest) M L Q := by
  intro p e s m args below meth c ad cs D H locs lsA X hH hS hl
  exact lv_lrem X.1 X.2.1 hd hne (kk p e s m args below meth c ad cs D H locs lsA X hH hS hl)
theorem zk_ineg {x : Int32} (hd : decode μ.2.1 pc = .ok (.ineg, 1)) (kk : zk_R l σ d μ (pc + 1) ls (.int (-x) :: rest) M L Q) : zk_R l σ d μ (pc) ls (.int x :: rest) M L Q := by
  intro p e s m args below meth c ad cs D H locs lsA X hH hS hl
  exact lv_ineg X.1 X.2.1 hd (kk p e s m args below meth c ad cs D H locs lsA X hH hS hl)
theorem zk_ishl {x y : Int32} (hd : decode μ.2.1 pc = .ok (.ishl, 1)) (kk : zk_R l σ d μ (pc + 1) ls (.int (x <<< (y &&& 31)) :: rest) M L Q) : zk_R l σ d μ (pc) ls (.int y :: .int x :: rest) M L Q := by
  intro p e s m args below meth c ad cs D H locs lsA X hH hS hl
  exact lv_ishl X.1 X.2.1 hd (kk p e s m args below meth c ad cs D H locs lsA X hH hS hl)
theorem zk_ishr {x y : Int32} (hd : decode μ.2.1 pc = .ok (.ishr, 1)) (kk : zk_R l σ d μ (pc + 1) ls (.int (x >>> (y &&& 31)) :: rest) M L Q) : zk_R l σ d μ (pc) ls (.int y :: .int x :: rest) M L Q := by
  intro p e s m args below meth c ad cs D H locs lsA X hH hS hl
  exact lv_ishr X.1 X.2.1 hd (kk p e s m args below meth c ad cs D H locs lsA X hH hS hl)
theorem zk_iushr {x y : Int32} (hd : decode μ.2.1 pc = .ok (.iushr, 1)) (kk : zk_R l σ d μ (pc + 1) ls (.int (x.toUInt32 >>> (y.toUInt32 &&& Int32.toUInt32 31)).toInt32 :: rest) M L Q) : zk_R l σ d μ (pc) ls (.int y :: .int x :: rest) M L Q := by
  intro p e s m args below meth c ad cs D H locs lsA X hH hS hl
  exact lv_iushr X.1 X.2.1 hd rfl (kk p e s m args below meth c ad cs D H locs lsA X hH hS hl)
theorem zk_lshl {x : Int64} {y : Int32} (hd : decode μ.2.1 pc = .ok (.lshl, 1)) (kk : zk_R l σ d μ (pc + 1) ls (.long (x <<< (y.toInt64 &&& 63)) :: rest) M L Q) : zk_R l σ d μ (pc) ls (.int y :: .long x :: rest) M L Q := by
  intro p e s m args below meth c ad cs D H locs lsA X hH hS hl
  exact lv_lshl X.1 X.2.1 hd rfl (kk p e s m args below meth c ad cs D H locs lsA X hH hS hl)
theorem zk_lshr {x : Int64} {y : Int32} (hd : decode μ.2.1 pc = .ok (.lshr, 1)) (kk : zk_R l σ d μ (pc + 1) ls (.long (x >>> (y.toInt64 &&& 63)) :: rest) M L Q) : zk_R l σ d μ (pc) ls (.int y :: .long x :: rest) M L Q := by
  intro p e s m args below meth c ad cs D H locs lsA X hH hS hl
  exact lv_lshr X.1 X.2.1 hd rfl (kk p e s m args below meth c ad cs D H locs lsA X hH hS hl)
theorem zk_i2l {x : Int32} (hd : decode μ.2.1 pc = .ok (.i2l, 1)) (kk : zk_R l σ d μ (pc + 1) ls (.long x.toInt64 :: rest) M L Q) : zk_R l σ d μ (pc) ls (.int x :: rest) M L Q := by
  intro p e s m args below meth c ad cs D H locs lsA X hH hS hl
  exact lv_i2l X.1 X.2.1 hd rfl (kk p e s m args below meth c ad cs D H locs lsA X hH hS hl)
theorem zk_lcmp {x y : Int64} (hd : decode μ.2.1 pc = .ok (.lcmp, 1)) (kk : zk_R l σ d μ (pc + 1) ls (.int (lg_cmp x y) :: rest) M L Q) : zk_R l σ d μ (pc) ls (.long y :: .long x :: rest) M L Q := by
  intro p e s m args below meth c ad cs D H locs lsA X hH hS hl
  exact W.lcmp X.1 X.2.1 hd (kk p e s m args below meth c ad cs D H locs lsA X hH hS hl)
theorem zk_iconst {n : Int} {v : Int32} (hd : decode μ.2.1 pc = .ok (.iconst n, 1)) (hv : Int32.ofInt n = v) (kk : zk_R l σ d μ (pc + 1) ls (.int v :: rest) M L Q) : zk_R l σ d μ (pc) ls (rest) M L Q := by
  intro p e s m args below meth c ad cs D H locs lsA X hH hS hl
  exact lv_iconst X.1 X.2.1 hd hv (kk p e s m args below meth c ad cs D H locs lsA X hH hS hl)
theorem zk_bipush {n : Int} {v : Int32} (hd : decode μ.2.1 pc = .ok (.bipush n, 2)) (hv : (Int8.ofInt n).toInt32 = v) (kk : zk_R l σ d μ (pc + 2) ls (.int v :: rest) M L Q) : zk_R l σ d μ (pc) ls (rest) M L Q := by
  intro p e s m args below meth c ad cs D H locs lsA X hH hS hl
  exact lv_bipush X.1 X.2.1 hd hv (kk p e s m args below meth c ad cs D H locs lsA X hH hS hl)
theorem zk_sipush {n : Int} {v : Int32} (hd : decode μ.2.1 pc = .ok (.sipush n, 3)) (hv : (Int16.ofInt n).toInt32 = v) (kk : zk_R l σ d μ (pc + 3) ls (.int v :: rest) M L Q) : zk_R l σ d μ (pc) ls (rest) M L Q := by
  intro p e s m args below meth c ad cs D H locs lsA X hH hS hl
  exact lv_sipush X.1 X.2.1 hd hv (kk p e s m args below meth c ad cs D H locs lsA X hH hS hl)
theorem zk_lconst {n : Fin 2} {v : Int64} (hd : decode μ.2.1 pc = .ok (.lconst n, 1)) (hv : Int64.ofNat (n : Nat) = v) (kk : zk_R l σ d μ (pc + 1) ls (.long v :: rest) M L Q) : zk_R l σ d μ (pc) ls (rest) M L Q := by
  intro p e s m args below meth c ad cs D H locs lsA X hH hS hl
  exact lv_lconst X.1 X.2.1 hd hv (kk p e s m args below meth c ad cs D H locs lsA X hH hS hl)
theorem zk_ldc {idx : Nat} {v : Int32} (hd : decode μ.2.1 pc = .ok (.ldc idx, 2)) (hw : Cond.constant μ.2.2.2.2 idx v ∈ zk_tb) (kk : zk_R l σ d μ (pc + 2) ls (.int v :: rest) M L Q) : zk_R l σ d μ (pc) ls (rest) M L Q := by
  intro p e s m args below meth c ad cs D H locs lsA X hH hS hl
  exact lv_ldc X.1 X.2.1 X.2.2.2.2.1 (X.2.2.2.2.2.1 _ hw) hd (kk p e s m args below meth c ad cs D H locs lsA X hH hS hl)
theorem zk_ldcw {idx : Nat} {v : Int32} (hd : decode μ.2.1 pc = .ok (.ldc_w idx, 3)) (hw : Cond.constant μ.2.2.2.2 idx v ∈ zk_tb) (kk : zk_R l σ d μ (pc + 3) ls (.int v :: rest) M L Q) : zk_R l σ d μ (pc) ls (rest) M L Q := by
  intro p e s m args below meth c ad cs D H locs lsA X hH hS hl
  exact lv_ldcw X.1 X.2.1 X.2.2.2.2.1 (X.2.2.2.2.2.1 _ hw) hd (kk p e s m args below meth c ad cs D H locs lsA X hH hS hl)
theorem zk_ldc2 {idx : Nat} {v : Int64} (hd : decode μ.2.1 pc = .ok (.ldc2_w idx, 3)) (hw : Cond.constantLong μ.2.2.2.2 idx v ∈ zk_tb) (kk : zk_R l σ d μ (pc + 3) ls (.long v :: rest) M L Q) : zk_R l σ d μ (pc) ls (rest) M L Q := by
  intro p e s m args below meth c ad cs D H locs lsA X hH hS hl
  exact lv_ldc2 X.1 X.2.1 X.2.2.2.2.1 (X.2.2.2.2.2.1 _ hw) hd (kk p e s m args below meth c ad cs D H locs lsA X hH hS hl)
theorem zk_iload_n {k : Fin 4} {x : Int32} (hd : decode μ.2.1 pc = .ok (.iload_n k, 1)) (hg : zk_g ls (k : Nat) = some (.int x)) (kk : zk_R l σ d μ (pc + 1) ls (.int x :: rest) M L Q) : zk_R l σ d μ (pc) ls (rest) M L Q := by
  intro p e s m args below meth c ad cs D H locs lsA X hH hS hl
  exact lv_iload_n X.1 X.2.1 hd rfl (zk_lv_at hl hg) (kk p e s m args below meth c ad cs D H locs lsA X hH hS hl)
theorem zk_iload {i : Nat} {x : Int32} (hd : decode μ.2.1 pc = .ok (.iload i, 2)) (hg : zk_g ls i = some (.int x)) (kk : zk_R l σ d μ (pc + 2) ls (.int x :: rest) M L Q) : zk_R l σ d μ (pc) ls (rest) M L Q := by
  intro p e s m args below meth c ad cs D H locs lsA X hH hS hl
  exact lv_iload X.1 X.2.1 hd (zk_lv_at hl hg) (kk p e s m args below meth c ad cs D H locs lsA X hH hS hl)
theorem zk_istore_n {k : Fin 4} {x : Int32} (hd : decode μ.2.1 pc = .ok (.istore_n k, 1)) (hs : zk_S ls (k : Nat) ls' (.int x)) (kk : zk_R l σ d μ (pc + 1) ls' (rest) M L Q) : zk_R l σ d μ (pc) ls (.int x :: rest) M L Q := by
  intro p e s m args below meth c ad cs D H locs lsA X hH hS hl
  exact lv_istore_n X.1 X.2.1 hd rfl (zk_lv_has hl) (by have := hs.1; rw [hl.2.2.1] at this; exact this) rfl (fun lsB hB => kk p e s m args below meth c ad cs D H locs lsB X hH hS (zk_lv_set hl hs hB))
theorem zk_istore {i : Nat} {x : Int32} (hd : decode μ.2.1 pc = .ok (.istore i, 2)) (hs : zk_S ls i ls' (.int x)) (kk : zk_R l σ d μ (pc + 2) ls' (rest) M L Q) : zk_R l σ d μ (pc) ls (.int x :: rest) M L Q := by
  intro p e s m args below meth c ad cs D H locs lsA X hH hS hl
  exact lv_istore X.1 X.2.1 hd (zk_lv_has hl) (by have := hs.1; rw [hl.2.2.1] at this; exact this) rfl (fun lsB hB => kk p e s m args below meth c ad cs D H locs lsB X hH hS (zk_lv_set hl hs hB))
theorem zk_aload_n {k : Fin 4} {x : Nat} (hd : decode μ.2.1 pc = .ok (.aload_n k, 1)) (hg : zk_g ls (k : Nat) = some (.ref x)) (kk : zk_R l σ d μ (pc + 1) ls (.ref x :: rest) M L Q) : zk_R l σ d μ (pc) ls (rest) M L Q := by
  intro p e s m args below meth c ad cs D H locs lsA X hH hS hl
  exact lv_aload_n X.1 X.2.1 hd rfl (zk_lv_at hl hg) (kk p e s m args below meth c ad cs D H locs lsA X hH hS hl)
theorem zk_aload {i : Nat} {x : Nat} (hd : decode μ.2.1 pc = .ok (.aload i, 2)) (hg : zk_g ls i = some (.ref x)) (kk : zk_R l σ d μ (pc + 2) ls (.ref x :: rest) M L Q) : zk_R l σ d μ (pc) ls (rest) M L Q := by
  intro p e s m args below meth c ad cs D H locs lsA X hH hS hl
  exact lv_aload X.1 X.2.1 hd (zk_lv_at hl hg) (kk p e s m args below meth c ad cs D H locs lsA X hH hS hl)
theorem zk_astore_n {k : Fin 4} {x : Nat} (hd : decode μ.2.1 pc = .ok (.astore_n k, 1)) (hs : zk_S ls (k : Nat) ls' (.ref x)) (kk : zk_R l σ d μ (pc + 1) ls' (rest) M L Q) : zk_R l σ d μ (pc) ls (.ref x :: rest) M L Q := by
  intro p e s m args below meth c ad cs D H locs lsA X hH hS hl
  exact lv_astore_n X.1 X.2.1 hd rfl (zk_lv_has hl) (by have := hs.1; rw [hl.2.2.1] at this; exact this) rfl (fun lsB hB => kk p e s m args below meth c ad cs D H locs lsB X hH hS (zk_lv_set hl hs hB))
theorem zk_astore {i : Nat} {x : Nat} (hd : decode μ.2.1 pc = .ok (.astore i, 2)) (hs : zk_S ls i ls' (.ref x)) (kk : zk_R l σ d μ (pc + 2) ls' (rest) M L Q) : zk_R l σ d μ (pc) ls (.ref x :: rest) M L Q := by
  intro p e s m args below meth c ad cs D H locs lsA X hH hS hl
  exact lv_astore X.1 X.2.1 hd (zk_lv_has hl) (by have := hs.1; rw [hl.2.2.1] at this; exact this) rfl (fun lsB hB => kk p e s m args below meth c ad cs D H locs lsB X hH hS (zk_lv_set hl hs hB))
theorem zk_lload_n {k : Fin 4} {x : Int64} (hd : decode μ.2.1 pc = .ok (.lload_n k, 1)) (hg : zk_g ls (k : Nat) = some (.long x)) (kk : zk_R l σ d μ (pc + 1) ls (.long x :: rest) M L Q) : zk_R l σ d μ (pc) ls (rest) M L Q := by
  intro p e s m args below meth c ad cs D H locs lsA X hH hS hl
  exact lv_lload_n X.1 X.2.1 hd rfl (zk_lv_at hl hg) (kk p e s m args below meth c ad cs D H locs lsA X hH hS hl)
theorem zk_lload {i : Nat} {x : Int64} (hd : decode μ.2.1 pc = .ok (.lload i, 2)) (hg : zk_g ls i = some (.long x)) (kk : zk_R l σ d μ (pc + 2) ls (.long x :: rest) M L Q) : zk_R l σ d μ (pc) ls (rest) M L Q := by
  intro p e s m args below meth c ad cs D H locs lsA X hH hS hl
  exact lv_lload X.1 X.2.1 hd (zk_lv_at hl hg) (kk p e s m args below meth c ad cs D H locs lsA X hH hS hl)
theorem zk_lstore_n {k : Fin 4} {x : Int64} (hd : decode μ.2.1 pc = .ok (.lstore_n k, 1)) (hs : zk_S2 ls (k : Nat) ls' (.long x)) (kk : zk_R l σ d μ (pc + 1) ls' (rest) M L Q) : zk_R l σ d μ (pc) ls (.long x :: rest) M L Q := by
  intro p e s m args below meth c ad cs D H locs lsA X hH hS hl
  exact lv_lstore_n X.1 X.2.1 hd rfl (zk_lv_has hl) (by have := hs.1; rw [hl.2.2.1] at this; exact this) rfl (fun lsB hB => kk p e s m args below meth c ad cs D H locs lsB X hH hS (zk_lv_set2 hl hs hB))
theorem zk_lstore {i : Nat} {x : Int64} (hd : decode μ.2.1 pc = .ok (.lstore i, 2)) (hs : zk_S2 ls i ls' (.long x)) (kk : zk_R l σ d μ (pc + 2) ls' (rest) M L Q) : zk_R l σ d μ (pc) ls (.long x :: rest) M L Q := by
  intro p e s m args below meth c ad cs D H locs lsA X hH hS hl
  exact lv_lstore X.1 X.2.1 hd (zk_lv_has hl) (by have := hs.1; rw [hl.2.2.1] at this; exact this) rfl (fun lsB hB => kk p e s m args below meth c ad cs D H locs lsB X hH hS (zk_lv_set2 hl hs hB))
theorem zk_iinc {i : Nat} {n : Int} {x nv : Int32} (hd : decode μ.2.1 pc = .ok (.iinc i n, 3)) (hn : Int32.ofInt n = nv) (hg : zk_g ls i = some (.int x)) (hs : zk_S ls i ls' (.int (x + nv))) (kk : zk_R l σ d μ (pc + 3) ls' (rest) M L Q) : zk_R l σ d μ (pc) ls (rest) M L Q := by
  intro p e s m args below meth c ad cs D H locs lsA X hH hS hl
  subst hn
  obtain ⟨k, hk⟩ := List.getElem?_of_mem (zk_ll_mem.mpr ⟨.int x, zk_g_get hg, rfl⟩ : (i, zk_mv ad (.int x)) ∈ zk_ll ad ls)
  exact lv_iinc X.1 X.2.1 hd (zk_lv_has hl) hk rfl (by have := hs.1; rw [hl.2.2.1] at this; exact this) rfl (fun lsB hB => kk p e s m args below meth c ad cs D H locs lsB X hH hS (zk_lv_set hl hs hB))
theorem zk_dup {v : Value} (hd : decode μ.2.1 pc = .ok (.dup, 1)) (hv : v.category = 1) (kk : zk_R l σ d μ (pc + 1) ls (v :: v :: rest) M L Q) : zk_R l σ d μ (pc) ls (v :: rest) M L Q := by
  intro p e s m args below meth c ad cs D H locs lsA X hH hS hl
  exact lv_dup X.1 X.2.1 hd ((zk_mv_cat ad v).trans hv) (kk p e s m args below meth c ad cs D H locs lsA X hH hS hl)
theorem zk_dup2 {v u : Value} (hd : decode μ.2.1 pc = .ok (.dup2, 1)) (hv : v.category = 1) (hu : u.category = 1) (kk : zk_R l σ d μ (pc + 1) ls (v :: u :: v :: u :: rest) M L Q) : zk_R l σ d μ (pc) ls (v :: u :: rest) M L Q := by
  intro p e s m args below meth c ad cs D H locs lsA X hH hS hl
  exact lv_dup2_11 X.1 X.2.1 hd ((zk_mv_cat ad v).trans hv) ((zk_mv_cat ad u).trans hu) (kk p e s m args below meth c ad cs D H locs lsA X hH hS hl)
theorem zk_pop {v : Value} (hd : decode μ.2.1 pc = .ok (.pop, 1)) (hv : v.category = 1) (kk : zk_R l σ d μ (pc + 1) ls (rest) M L Q) : zk_R l σ d μ (pc) ls (v :: rest) M L Q := by
  intro p e s m args below meth c ad cs D H locs lsA X hH hS hl
  exact lv_pop X.1 X.2.1 hd ((zk_mv_cat ad v).trans hv) (kk p e s m args below meth c ad cs D H locs lsA X hH hS hl)
theorem zk_if_eq {x : Int32} {off : Int} {tgt : Nat} (hd : decode μ.2.1 pc = .ok (.ifCond .eq off, 3)) (ht : (pc : Int) + off = (tgt : Int)) (kt : x = 0 → zk_R l σ d μ (tgt) ls (rest) M L Q) (kf : ¬ x = 0 → zk_R l σ d μ (pc + 3) ls (rest) M L Q) : zk_R l σ d μ (pc) ls (.int x :: rest) M L Q := by
  intro p e s m args below meth c ad cs D H locs lsA X hH hS hl
  exact lv_if_eq X.1 X.2.1 hd ht (fun q => kt q p e s m args below meth c ad cs D H locs lsA X hH hS hl) (fun q => kf q p e s m args below meth c ad cs D H locs lsA X hH hS hl)
theorem zk_icmp_eq {x y : Int32} {off : Int} {tgt : Nat} (hd : decode μ.2.1 pc = .ok (.if_icmp .eq off, 3)) (ht : (pc : Int) + off = (tgt : Int)) (kt : x = y → zk_R l σ d μ (tgt) ls (rest) M L Q) (kf : ¬ x = y → zk_R l σ d μ (pc + 3) ls (rest) M L Q) : zk_R l σ d μ (pc) ls (.int y :: .int x :: rest) M L Q := by
  intro p e s m args below meth c ad cs D H locs lsA X hH hS hl
  exact lv_icmp_eq X.1 X.2.1 hd ht (fun q => kt q p e s m args below meth c ad cs D H locs lsA X hH hS hl) (fun q => kf q p e s m args below meth c ad cs D H locs lsA X hH hS hl)
theorem zk_if_ne {x : Int32} {off : Int} {tgt : Nat} (hd : decode μ.2.1 pc = .ok (.ifCond .ne off, 3)) (ht : (pc : Int) + off = (tgt : Int)) (kt : ¬ x = 0 → zk_R l σ d μ (tgt) ls (rest) M L Q) (kf : x = 0 → zk_R l σ d μ (pc + 3) ls (rest) M L Q) : zk_R l σ d μ (pc) ls (.int x :: rest) M L Q := by
  intro p e s m args below meth c ad cs D H locs lsA X hH hS hl
  exact lv_if_ne X.1 X.2.1 hd ht (fun q => kt q p e s m args below meth c ad cs D H locs lsA X hH hS hl) (fun q => kf q p e s m args below meth c ad cs D H locs lsA X hH hS hl)
theorem zk_icmp_ne {x y : Int32} {off : Int} {tgt : Nat} (hd : decode μ.2.1 pc = .ok (.if_icmp .ne off, 3)) (ht : (pc : Int) + off = (tgt : Int)) (kt : ¬ x = y → zk_R l σ d μ (tgt) ls (rest) M L Q) (kf : x = y → zk_R l σ d μ (pc + 3) ls (rest) M L Q) : zk_R l σ d μ (pc) ls (.int y :: .int x :: rest) M L Q := by
  intro p e s m args below meth c ad cs D H locs lsA X hH hS hl
  exact lv_icmp_ne X.1 X.2.1 hd ht (fun q => kt q p e s m args below meth c ad cs D H locs lsA X hH hS hl) (fun q => kf q p e s m args below meth c ad cs D H locs lsA X hH hS hl)
theorem zk_if_lt {x : Int32} {off : Int} {tgt : Nat} (hd : decode μ.2.1 pc = .ok (.ifCond .lt off, 3)) (ht : (pc : Int) + off = (tgt : Int)) (kt : x < 0 → zk_R l σ d μ (tgt) ls (rest) M L Q) (kf : ¬ x < 0 → zk_R l σ d μ (pc + 3) ls (rest) M L Q) : zk_R l σ d μ (pc) ls (.int x :: rest) M L Q := by
  intro p e s m args below meth c ad cs D H locs lsA X hH hS hl
  exact lv_if_lt X.1 X.2.1 hd ht (fun q => kt q p e s m args below meth c ad cs D H locs lsA X hH hS hl) (fun q => kf q p e s m args below meth c ad cs D H locs lsA X hH hS hl)
theorem zk_icmp_lt {x y : Int32} {off : Int} {tgt : Nat} (hd : decode μ.2.1 pc = .ok (.if_icmp .lt off, 3)) (ht : (pc : Int) + off = (tgt : Int)) (kt : x < y → zk_R l σ d μ (tgt) ls (rest) M L Q) (kf : ¬ x < y → zk_R l σ d μ (pc + 3) ls (rest) M L Q) : zk_R l σ d μ (pc) ls (.int y :: .int x :: rest) M L Q := by
  intro p e s m args below meth c ad cs D H locs lsA X hH hS hl
  exact lv_icmp_lt X.1 X.2.1 hd ht (fun q => kt q p e s m args below meth c ad cs D H locs lsA X hH hS hl) (fun q => kf q p e s m args below meth c ad cs D H locs lsA X hH hS hl)
theorem zk_if_ge {x : Int32} {off : Int} {tgt : Nat} (hd : decode μ.2.1 pc = .ok (.ifCond .ge off, 3)) (ht : (pc : Int) + off = (tgt : Int)) (kt : 0 ≤ x → zk_R l σ d μ (tgt) ls (rest) M L Q) (kf : ¬ 0 ≤ x → zk_R l σ d μ (pc + 3) ls (rest) M L Q) : zk_R l σ d μ (pc) ls (.int x :: rest) M L Q := by
  intro p e s m args below meth c ad cs D H locs lsA X hH hS hl
  exact lv_if_ge X.1 X.2.1 hd ht (fun q => kt q p e s m args below meth c ad cs D H locs lsA X hH hS hl) (fun q => kf q p e s m args below meth c ad cs D H locs lsA X hH hS hl)
theorem zk_icmp_ge {x y : Int32} {off : Int} {tgt : Nat} (hd : decode μ.2.1 pc = .ok (.if_icmp .ge off, 3)) (ht : (pc : Int) + off = (tgt : Int)) (kt : y ≤ x → zk_R l σ d μ (tgt) ls (rest) M L Q) (kf : ¬ y ≤ x → zk_R l σ d μ (pc + 3) ls (rest) M L Q) : zk_R l σ d μ (pc) ls (.int y :: .int x :: rest) M L Q := by
  intro p e s m args below meth c ad cs D H locs lsA X hH hS hl
  exact lv_icmp_ge X.1 X.2.1 hd ht (fun q => kt q p e s m args below meth c ad cs D H locs lsA X hH hS hl) (fun q => kf q p e s m args below meth c ad cs D H locs lsA X hH hS hl)
theorem zk_if_gt {x : Int32} {off : Int} {tgt : Nat} (hd : decode μ.2.1 pc = .ok (.ifCond .gt off, 3)) (ht : (pc : Int) + off = (tgt : Int)) (kt : 0 < x → zk_R l σ d μ (tgt) ls (rest) M L Q) (kf : ¬ 0 < x → zk_R l σ d μ (pc + 3) ls (rest) M L Q) : zk_R l σ d μ (pc) ls (.int x :: rest) M L Q := by
  intro p e s m args below meth c ad cs D H locs lsA X hH hS hl
  exact lv_if_gt X.1 X.2.1 hd ht (fun q => kt q p e s m args below meth c ad cs D H locs lsA X hH hS hl) (fun q => kf q p e s m args below meth c ad cs D H locs lsA X hH hS hl)
theorem zk_icmp_gt {x y : Int32} {off : Int} {tgt : Nat} (hd : decode μ.2.1 pc = .ok (.if_icmp .gt off, 3)) (ht : (pc : Int) + off = (tgt : Int)) (kt : y < x → zk_R l σ d μ (tgt) ls (rest) M L Q) (kf : ¬ y < x → zk_R l σ d μ (pc + 3) ls (rest) M L Q) : zk_R l σ d μ (pc) ls (.int y :: .int x :: rest) M L Q := by
  intro p e s m args below meth c ad cs D H locs lsA X hH hS hl
  exact lv_icmp_gt X.1 X.2.1 hd ht (fun q => kt q p e s m args below meth c ad cs D H locs lsA X hH hS hl) (fun q => kf q p e s m args below meth c ad cs D H locs lsA X hH hS hl)
theorem zk_if_le {x : Int32} {off : Int} {tgt : Nat} (hd : decode μ.2.1 pc = .ok (.ifCond .le off, 3)) (ht : (pc : Int) + off = (tgt : Int)) (kt : x ≤ 0 → zk_R l σ d μ (tgt) ls (rest) M L Q) (kf : ¬ x ≤ 0 → zk_R l σ d μ (pc + 3) ls (rest) M L Q) : zk_R l σ d μ (pc) ls (.int x :: rest) M L Q := by
  intro p e s m args below meth c ad cs D H locs lsA X hH hS hl
  exact lv_if_le X.1 X.2.1 hd ht (fun q => kt q p e s m args below meth c ad cs D H locs lsA X hH hS hl) (fun q => kf q p e s m args below meth c ad cs D H locs lsA X hH hS hl)
theorem zk_icmp_le {x y : Int32} {off : Int} {tgt : Nat} (hd : decode μ.2.1 pc = .ok (.if_icmp .le off, 3)) (ht : (pc : Int) + off = (tgt : Int)) (kt : x ≤ y → zk_R l σ d μ (tgt) ls (rest) M L Q) (kf : ¬ x ≤ y → zk_R l σ d μ (pc + 3) ls (rest) M L Q) : zk_R l σ d μ (pc) ls (.int y :: .int x :: rest) M L Q := by
  intro p e s m args below meth c ad cs D H locs lsA X hH hS hl
  exact lv_icmp_le X.1 X.2.1 hd ht (fun q => kt q p e s m args below meth c ad cs D H locs lsA X hH hS hl) (fun q => kf q p e s m args below meth c ad cs D H locs lsA X hH hS hl)
theorem zk_goto {off : Int} {tgt : Nat} (hd : decode μ.2.1 pc = .ok (.goto off, 3)) (ht : (pc : Int) + off = (tgt : Int)) (kk : zk_R l σ d μ (tgt) ls (rest) M L Q) : zk_R l σ d μ (pc) ls (rest) M L Q := by
  intro p e s m args below meth c ad cs D H locs lsA X hH hS hl
  exact lv_goto X.1 X.2.1 hd ht (kk p e s m args below meth c ad cs D H locs lsA X hH hS hl)
theorem zk_lookup {dflt : Int} {ps : Array (Int × Int)} {len : Nat} {x : Int32} {off : Int} {tgt : Nat} (hd : decode μ.2.1 pc = .ok (.lookupswitch dflt ps, len)) (hp : (ps.toList.zip (ps.toList.drop 1)).all (fun (a, next) => a.1 < next.1) = true) (ho : Op.lookupswitch.offset ps.toList dflt x.toInt = off) (ht : (pc : Int) + off = (tgt : Int)) (kk : zk_R l σ d μ (tgt) ls (rest) M L Q) : zk_R l σ d μ (pc) ls (.int x :: rest) M L Q := by
  intro p e s m args below meth c ad cs D H locs lsA X hH hS hl
  exact lv_lookup X.1 X.2.1 hd hp ho ht (kk p e s m args below meth c ad cs D H locs lsA X hH hS hl)
theorem zk_tabOut {dflt lo hi : Int} {offs : Array Int} {len : Nat} {x : Int32} {tgt : Nat} (hd : decode μ.2.1 pc = .ok (.tableswitch dflt lo hi offs, len)) (h : x.toInt < lo ∨ hi < x.toInt) (ht : (pc : Int) + dflt = (tgt : Int)) (kk : zk_R l σ d μ (tgt) ls (rest) M L Q) : zk_R l σ d μ (pc) ls (.int x :: rest) M L Q := by
  intro p e s m args below meth c ad cs D H locs lsA X hH hS hl
  exact lv_tableOut X.1 X.2.1 hd h ht (kk p e s m args below meth c ad cs D H locs lsA X hH hS hl)
theorem zk_tabIn {dflt lo hi : Int} {offs : Array Int} {len : Nat} {x : Int32} {off : Int} {tgt : Nat} (hd : decode μ.2.1 pc = .ok (.tableswitch dflt lo hi offs, len)) (h1 : ¬ x.toInt < lo) (h2 : ¬ hi < x.toInt) (ho : offs[(x.toInt - lo).toNat]? = some off) (ht : (pc : Int) + off = (tgt : Int)) (kk : zk_R l σ d μ (tgt) ls (rest) M L Q) : zk_R l σ d μ (pc) ls (.int x :: rest) M L Q := by
  intro p e s m args below meth c ad cs D H locs lsA X hH hS hl
  exact lv_tableIn X.1 X.2.1 hd h1 h2 ho ht (kk p e s m args below meth c ad cs D H locs lsA X hH hS hl)
/-- a field's link: own class, pool number, class, slot -/
def zk_FL (own : String) (idx c k : Nat) : Prop := ∃ (C : String) (T : u_T) (N : Nat), vwCl[c]? = some (C, T, N) ∧ k < N ∧ N = zk_nf c ∧ (∀ w ∈ u_ws C T N, w ∈ zk_tb) ∧ Cond.fieldLink own idx (T k).1 (T k).2.1 (T k).2.2.1 ∈ zk_tb
theorem zk_c6 {c : Nat} {q : vw_C} (h : vwCl[c]? = some q) : c < 6 := by
  have := (List.getElem?_eq_some_iff.mp h).1
  simpa [vwCl] using this
theorem zk_getI {o idx ci k : Nat} (hd : decode μ.2.1 pc = .ok (.getfield idx, 3)) (hf : zk_FL μ.2.2.2.2 idx ci k) (ho : o < σ.1) (hc : σ.2.1 o = ci) (hr : zk_isref ci k = false) (kk : zk_R l σ d μ (pc + 3) ls (.int (M o k) :: rest) M L Q) : zk_R l σ d μ (pc) ls (.ref o :: rest) M L Q := by
  intro p e s m args below meth c ad cs D H locs lsA X hH hS hl
  obtain ⟨C, T, N, h1, h2, h3, h4, h5⟩ := hf
  refine va_get (D := D) (ci := ci) (v := .int (M o k)) (C := C) (T := T) (N := N) X.1 X.2.1 X.2.2.2.2.2.1 h4 X.2.2.2.2.1 X.2.2.2.2.2.2.2.2 hH.1 o (by rw [zk_at ho, zk_ent_o hc (zk_c6 h1)]) h1 k h2 (X.2.2.2.2.2.1 _ h5) (fun _ h => h) ?_ hd (kk p e s m args below meth c ad cs D H locs lsA X hH hS hl)
  rw [List.getElem?_map, List.getElem?_range (by omega)]
  simp [zk_fv, hc, hr]
theorem zk_getR {o idx ci k : Nat} (hd : decode μ.2.1 pc = .ok (.getfield idx, 3)) (hf : zk_FL μ.2.2.2.2 idx ci k) (ho : o < σ.1) (hc : σ.2.1 o = ci) (hr : zk_isref ci k = true) (kk : zk_R l σ d μ (pc + 3) ls (.ref (σ.2.2.2 o k) :: rest) M L Q) : zk_R l σ d μ (pc) ls (.ref o :: rest) M L Q := by
  intro p e s m args below meth c ad cs D H locs lsA X hH hS hl
  obtain ⟨C, T, N, h1, h2, h3, h4, h5⟩ := hf
  refine va_get (D := D) (ci := ci) (v := .ref (ad (σ.2.2.2 o k))) (C := C) (T := T) (N := N) X.1 X.2.1 X.2.2.2.2.2.1 h4 X.2.2.2.2.1 X.2.2.2.2.2.2.2.2 hH.1 o (by rw [zk_at ho, zk_ent_o hc (zk_c6 h1)]) h1 k h2 (X.2.2.2.2.2.1 _ h5) (fun _ h => h) ?_ hd (kk p e s m args below meth c ad cs D H locs lsA X hH hS hl)
  rw [List.getElem?_map, List.getElem?_range (by omega)]
  simp [zk_fv, hc, hr]
theorem zk_getRc {o idx ci k q : Nat} (hd : decode μ.2.1 pc = .ok (.getfield idx, 3)) (hf : zk_FL μ.2.2.2.2 idx ci k) (ho : o < σ.1) (hc : σ.2.1 o = ci) (hr : zk_isref ci k = true) (hq : σ.2.2.2 o k = q) (kk : zk_R l σ d μ (pc + 3) ls (.ref q :: rest) M L Q) : zk_R l σ d μ (pc) ls (.ref o :: rest) M L Q := by subst hq; exact zk_getR hd hf ho hc hr kk
theorem zs_in {o n : Nat} {i : Int32} (h : σ.2.2.1 o = n) (hi : vp_in i n) : vp_in i (σ.2.2.1 o) := by rw [h]; exact hi
/-- what a put wants of a class's table -/
def zk_FT (c k : Nat) (ty : FieldType) : Prop := ∀ (C : String) (T : u_T) (N : Nat), vwCl[c]? = some (C, T, N) → (∃ ty0 : Nat → FieldType, ∀ k, k < N → parseFieldDescriptor (T k).2.2.1 = some (ty0 k)) ∧ (∀ a, a < N → ∀ b, b < N → a ≠ b → (T a).2.1 ≠ (T b).2.1) ∧ (T k).2.2.2 = false ∧ parseFieldDescriptor (T k).2.2.1 = some ty
theorem zk_fset {ad : Nat → Nat} {o c k : Nat} {v : Int32} (hc : σ.2.1 o = c) (hr : zk_isref c k = false) : ((List.range (zk_nf c)).map (zk_fv ad σ M o)).set k (.int v) = (List.range (zk_nf c)).map (zk_fv ad σ (va_up M o (va_up (M o) k v)) o) := by
  apply List.ext_getElem?
  intro j
  by_cases hj : j = k
  · subst hj
    by_cases hl : j < zk_nf c
    · rw [List.getElem?_set_self (by simpa using hl), List.getElem?_map, List.getElem?_range hl]
      simp [zk_fv, hc, hr, va_up]
    · rw [List.getElem?_eq_none (by simp; omega), List.getElem?_eq_none (by simp; omega)]
  · rw [List.getElem?_set_ne (fun h => hj h.symm)]
    by_cases hl : j < zk_nf c
    · rw [List.getElem?_map, List.getElem?_map, List.getElem?_range hl]
      simp [zk_fv, va_up, hj]
    · rw [List.getElem?_eq_none (by simp; omega), List.getElem?_eq_none (by simp; omega)]
theorem zk_putG {o idx ci k : Nat} {ty : FieldType} {v : Int32} (hd : decode μ.2.1 pc = .ok (.putfield idx, 3)) (hf : zk_FL μ.2.2.2.2 idx ci k) (hty : zk_FT ci k ty) (hn : narrow ty (.int v) = .int v) (hfit : fits ty (.int v) = true) (ho : o < σ.1) (hc : σ.2.1 o = ci) (hr : zk_isref ci k = false) (kk : zk_R l σ d μ (pc + 3) ls (rest) (va_up M o (va_up (M o) k v)) L Q) : zk_R l σ d μ (pc) ls (.int v :: .ref o :: rest) M L Q := by
  intro p e s m args below meth c ad cs D H locs lsA X hH hS hl
  obtain ⟨C, T, N, h1, h2, h3, h4, h5⟩ := hf
  obtain ⟨⟨ty0, t1⟩, t2, t3, t4⟩ := hty C T N h1
  refine va_put (D := D) (ci := ci) (v := .int v) (ty := ty) (C := C) (T := T) (N := N) X.1 X.2.1 X.2.2.2.2.2.1 h4 ty0 t1 t2 X.2.2.2.2.1 X.2.2.2.2.2.2.2.2 hH.1 hH.2 hS o (fs := (List.range (zk_nf ci)).map (zk_fv ad σ M o)) (by rw [zk_at ho, zk_ent_o hc (zk_c6 h1)]) h1 k h2 (X.2.2.2.2.2.1 _ h5) (fun _ h => h) t3 t4 hn hfit (by simp; omega) hd (fun H1 locs1 hP hD hS1 => ?_)
  rw [zk_fset hc hr, ← zk_ent_o (cs := cs) (L := L) hc (zk_c6 h1), zk_setM] at hP hD
  exact kk p e s m args below meth c ad cs D H1 locs1 lsA X ⟨hP, hD⟩ hS1 hl
theorem zk_iald {o j : Nat} {i : Int32} (hd : decode μ.2.1 pc = .ok (.iaload, 1)) (ho : o < σ.1) (hc : σ.2.1 o = 100) (hi : vp_in i (σ.2.2.1 o)) (hj : i.toNatClampNeg = j) (kk : zk_R l σ d μ (pc + 1) ls (.int (M o j) :: rest) M L Q) : zk_R l σ d μ (pc) ls (.int i :: .ref o :: rest) M L Q := by
  subst hj
  intro p e s m args below meth c ad cs D H locs lsA X hH hS hl
  exact va_iald (D := D) (tys := zk_ty cs) X.1 X.2.1 X.2.2.2.2.2.2.2.2 hH.1 o 0 (by rw [zk_at ho, zk_ent_i hc]) rfl hi hd (kk p e s m args below meth c ad cs D H locs lsA X hH hS hl)
theorem zk_lald {o j : Nat} {i : Int32} (hd : decode μ.2.1 pc = .ok (.laload, 1)) (ho : o < σ.1) (hc : σ.2.1 o = 101) (hi : vp_in i (σ.2.2.1 o)) (hj : i.toNatClampNeg = j) (kk : zk_R l σ d μ (pc + 1) ls (.long (L o j) :: rest) M L Q) : zk_R l σ d μ (pc) ls (.int i :: .ref o :: rest) M L Q := by
  subst hj
  intro p e s m args below meth c ad cs D H locs lsA X hH hS hl
  exact va_lald (D := D) (tys := zk_ty cs) X.1 X.2.1 X.2.2.2.2.2.2.2.2 hH.1 o 1 (by rw [zk_at ho, zk_ent_l hc]) rfl hi hd (kk p e s m args below meth c ad cs D H locs lsA X hH hS hl)
theorem zk_aald {o j : Nat} {i : Int32} (hd : decode μ.2.1 pc = .ok (.aaload, 1)) (ho : o < σ.1) (hc : σ.2.1 o = 102) (hi : vp_in i (σ.2.2.1 o)) (hj : i.toNatClampNeg = j) (kk : zk_R l σ d μ (pc + 1) ls (.ref (σ.2.2.2 o j) :: rest) M L Q) : zk_R l σ d μ (pc) ls (.int i :: .ref o :: rest) M L Q := by
  subst hj
  intro p e s m args below meth c ad cs D H locs lsA X hH hS hl
  exact va_aldq (D := D) (tys := zk_ty cs) X.1 X.2.1 X.2.2.2.2.2.2.2.2 hH.1 o 2 (f := fun j => some (ad (σ.2.2.2 o j))) (by rw [zk_at ho, zk_ent_q hc]) rfl hi hd (kk p e s m args below meth c ad cs D H locs lsA X hH hS hl)
theorem zk_iast {o j : Nat} {i x : Int32} (hd : decode μ.2.1 pc = .ok (.iastore, 1)) (ho : o < σ.1) (hc : σ.2.1 o = 100) (hi : vp_in i (σ.2.2.1 o)) (hj : i.toNatClampNeg = j) (kk : zk_R l σ d μ (pc + 1) ls (rest) (va_up M o (va_up (M o) j x)) L Q) : zk_R l σ d μ (pc) ls (.int x :: .int i :: .ref o :: rest) M L Q := by
  subst hj
  intro p e s m args below meth c ad cs D H locs lsA X hH hS hl
  refine va_iast (D := D) (tys := zk_ty cs) X.1 X.2.1 X.2.2.2.2.2.2.2.2 hH.1 hH.2 hS o 0 (by rw [zk_at ho, zk_ent_i hc]) rfl hi hd (fun H1 locs1 hP hD hS1 => ?_)
  have e1 : (Sum.inl (cs.1, σ.2.2.1 o, Sum.inl (upd (M o) i.toNatClampNeg x)) : va_E) = zk_ent ad cs σ (va_up M o (va_up (M o) i.toNatClampNeg x)) L o := by rw [zk_ent_i hc, zk_up_eq]; rfl
  rw [e1, zk_setM] at hP hD
  exact kk p e s m args below meth c ad cs D H1 locs1 lsA X ⟨hP, hD⟩ hS1 hl
theorem zk_last {o j : Nat} {i : Int32} {x : Int64} (hd : decode μ.2.1 pc = .ok (.lastore, 1)) (ho : o < σ.1) (hc : σ.2.1 o = 101) (hi : vp_in i (σ.2.2.1 o)) (hj : i.toNatClampNeg = j) (kk : zk_R l σ d μ (pc + 1) ls (rest) M (va_up L o (va_up (L o) j x)) Q) : zk_R l σ d μ (pc) ls (.long x :: .int i :: .ref o :: rest) M L Q := by
  subst hj
  intro p e s m args below meth c ad cs D H locs lsA X hH hS hl
  refine va_last (D := D) (tys := zk_ty cs) X.1 X.2.1 X.2.2.2.2.2.2.2.2 hH.1 hH.2 hS o 1 (by rw [zk_at ho, zk_ent_l hc]) rfl hi hd (fun H1 locs1 hP hD hS1 => ?_)
  have e1 : (Sum.inl (cs.2.1, σ.2.2.1 o, Sum.inr (Sum.inl (vp_updL (L o) i.toNatClampNeg x))) : va_E) = zk_ent ad cs σ M (va_up L o (va_up (L o) i.toNatClampNeg x)) o := by rw [zk_ent_l hc, zk_up_eq]; rfl
  rw [e1, zk_setL] at hP hD
  exact kk p e s m args below meth c ad cs D H1 locs1 lsA X ⟨hP, hD⟩ hS1 hl
/-! ends -/
theorem zk_iret {v : Int32} (hr : μ.2.2.2.1 = some .int) (hd : decode μ.2.1 pc = .ok (.ireturn, 1)) (hq : Q (some (.int v)) M L) : zk_R l σ d μ (pc) ls ([.int v]) M L Q := by
  intro p e s m args below meth c ad cs D H locs lsA X hH hS hl
  exact W.iret (v := v) X.1 X.2.1 (X.2.2.1.trans hr) (fun t ht hW => ⟨⟨some (.int v), M, L, rfl, hq, by rw [ht]; exact hH, va_K.moved hW.alike X.2.2.2.2.2.2.2.2⟩, hS.F ht⟩) hS.2.2 hd X.2.2.2.2.2.2.2.1
theorem zk_zret {v : Int32} (hr : μ.2.2.2.1 = some .boolean) (hn : narrow .boolean (.int v) = .int v) (hd : decode μ.2.1 pc = .ok (.ireturn, 1)) (hq : Q (some (.int v)) M L) : zk_R l σ d μ (pc) ls ([.int v]) M L Q := by
  intro p e s m args below meth c ad cs D H locs lsA X hH hS hl
  exact W.zret (v := v) X.1 X.2.1 (X.2.2.1.trans hr) hn (fun t ht hW => ⟨⟨some (.int v), M, L, rfl, hq, by rw [ht]; exact hH, va_K.moved hW.alike X.2.2.2.2.2.2.2.2⟩, hS.F ht⟩) hS.2.2 hd X.2.2.2.2.2.2.2.1
theorem zk_lret {v : Int64} (hr : μ.2.2.2.1 = some .long) (hd : decode μ.2.1 pc = .ok (.lreturn, 1)) (hq : Q (some (.long v)) M L) : zk_R l σ d μ (pc) ls ([.long v]) M L Q := by
  intro p e s m args below meth c ad cs D H locs lsA X hH hS hl
  exact W.lret (v := v) X.1 X.2.1 (X.2.2.1.trans hr) (fun t ht hW => ⟨⟨some (.long v), M, L, rfl, hq, by rw [ht]; exact hH, va_K.moved hW.alike X.2.2.2.2.2.2.2.2⟩, hS.F ht⟩) hS.2.2 hd X.2.2.2.2.2.2.2.1
theorem zk_vret (hr : μ.2.2.2.1 = none) (hd : decode μ.2.1 pc = .ok (.return_, 1)) (hq : Q none M L) : zk_R l σ d μ (pc) ls ([]) M L Q := by
  intro p e s m args below meth c ad cs D H locs lsA X hH hS hl
  exact W.vret X.1 X.2.1 (X.2.2.1.trans hr) (fun t ht hW => ⟨⟨none, M, L, rfl, hq, by rw [ht]; exact hH, va_K.moved hW.alike X.2.2.2.2.2.2.2.2⟩, hS.F ht⟩) hS.2.2 hd X.2.2.2.2.2.2.2.1

end ZKR
end
section
section ZKC
variable {l : Launch} {σ : zk_Sh} {d d' : Nat} {μ μ' : zk_I} {pc : Nat} {ls : List (Option Value)} {as st rest : List Value} {M M1 : zk_M} {L L1 : zk_L} {Q Q' : Option Value → zk_M → zk_L → Prop}
def zk_sl (as : List Value) : List (Option Value) := as.flatMap (fun v => if v.category = 2 then [some v, none] else [some v])
theorem zk_sl_len (ad : Nat → Nat) (as : List Value) : (lg_sl (as.map (zk_mv ad))).length = (zk_sl as).length := by
  induction as with
  | nil => rfl
  | cons a as ih =>
    simp only [zk_sl, lg_sl, List.map_cons, List.flatMap_cons, List.length_append, zk_mv_cat] at ih ⊢
    rw [ih]
    split <;> rfl
theorem zk_sl_args (ad : Nat → Nat) (n : Nat) : ∀ (as : List Value) (k i : Nat) (v : Value), (zk_sl as ++ List.replicate n none)[i]? = some (some v) → (k + i, zk_mv ad v) ∈ lv_args k (as.map (zk_mv ad))
  | [], k, i, v, h => by
    exfalso
    simp only [zk_sl, List.flatMap_nil, List.nil_append] at h
    have := List.mem_of_getElem? h
    simp at this
  | a :: as, k, i, v, h => by
    simp only [zk_sl, List.flatMap_cons, List.map_cons, lv_args, zk_mv_cat] at h ⊢
    by_cases hc : a.category = 2
    · simp only [hc, if_true, List.cons_append, List.nil_append] at h ⊢
      match i, h with
      | 0, h => simp at h; subst h; exact List.mem_cons_self
      | 1, h => simp at h
      | i + 2, h =>
        refine List.mem_cons_of_mem _ ?_
        have := zk_sl_args ad n as (k + 2) i v (by simpa [zk_sl] using h)
        rwa [show k + (i + 2) = k + 2 + i by omega]
    · simp only [hc, if_false, List.cons_append, List.nil_append] at h ⊢
      match i, h with
      | 0, h => simp at h; subst h; exact List.mem_cons_self
      | i + 1, h =>
        refine List.mem_cons_of_mem _ ?_
        have := zk_sl_args ad n as (k + 1) i v (by simpa [zk_sl] using h)
        rwa [show k + (i + 1) = k + 1 + i by omega]
theorem zk_ofR (hy : plainName μ.1.cls = true) (hown : μ.1.cls = μ.2.2.2.2) (hlen : (zk_sl as).length ≤ μ.2.2.1) (hls : zk_sl as ++ List.replicate (μ.2.2.1 - (zk_sl as).length) none = ls) (h : zk_R l σ d μ 0 ls [] M L Q) : zk_C l σ d μ as M L Q := by
  intro ad cs D sz
  refine Met.ofW (cc := μ.2.1) (maxL := μ.2.2.1) (ret := μ.2.2.2.1) hy rfl ?_
  intro p e s m args below meth c s₁ B hml hv
  obtain ⟨rfl, hsz, hH, hK, hN⟩ := hv
  have hts := atoms_spec (ws := zk_wd μ) B.pre
  have hown' : s.vm.findClass μ.1.cls = some m.cls := findClass_of_methodNamed B.named
  subst hsz
  have he := lv_entry (as.map (zk_mv ad)) (n := μ.2.2.1) (by rw [zk_sl_len]; exact hlen)
  rw [lg_entry_eq]
  generalize (lg_sl (as.map (zk_mv ad)) ++ List.replicate (μ.2.2.1 - (lg_sl (as.map (zk_mv ad))).length) Slot.unset).toArray = lsA at he ⊢
  refine h p e s m _ below meth c ad cs D s.heap [] lsA ⟨B.exec, B.bytes, B.returns, hml, by rw [← hown]; exact hown', fun w hw => hts w (List.mem_cons_of_mem _ hw), hN, B.notSynchronized, hK⟩ ⟨hH.1, hH.2.weaken (fun k q hq _ => ?_)⟩ va_S.rf ⟨he.1, he.2.1, ?_, fun i v hi => ?_⟩
  · have hk : k < σ.1 := by have := (List.getElem?_eq_some_iff.mp hq).1; simpa [zk_ws] using this
    rw [zk_at hk] at hq
    cases hq
    exact Or.inl ⟨k, hk, rfl⟩
  · rw [← hls]
    simp
    omega
  · subst hls
    have := zk_sl_args ad _ as 0 i v hi
    rw [Nat.zero_add] at this
    exact he.2.2 _ this
/-- a call that has come back -/
theorem zk_goes {p : Program} {e : Env} {R : Room} {s : State} {m : MethodId} {args : Array Value} {below : List Frame} {meth : Method} {c : Code} {H : Heap} {locs : List Loc} {QW : State → Prop} {lsA : Array Slot} {st0 rs : List Value} {ad : Nat → Nat} {cs : ClassId × ClassId × ClassId} {D : va_G} {a : Array Value}
    (hr : va_Run p l e R s m args below meth c H locs 0 0 0 0 (F0 m pc lsA st0) rs (zk_Q σ ad cs D (zk_A σ ad H.size) Q' a) (zk_A σ ad H.size)) (hS : va_S (zk_A σ ad s.heap.size) s.heap H locs)
    (kk : ∀ (r : Option Value) (M1 : zk_M) (L1 : zk_L) (H1 : Heap) (locs1 : List Loc), Q' r M1 L1 → zk_H σ ad cs D (zk_A σ ad s.heap.size) M1 L1 H1 → va_S (zk_A σ ad s.heap.size) s.heap H1 locs1 → W p l e R s m args below meth c H1 locs1 0 0 QW (F0 m (pc + 3) lsA ((r.map (zk_mv ad)).toList ++ rs))) : W p l e R s m args below meth c H locs 0 0 QW (F0 m pc lsA st0) := by
  intro T hT X
  obtain ⟨v, st₀, t, T', L2, h0, X', hL, e1, e2, ⟨⟨r, M1, L1, hv, hq, hH1, hK1⟩, hz, hk⟩, st⟩ := hr T hT X
  have hv' : v = r.map (zk_mv ad) := by injection hv
  subst hv'
  rw [h0] at hz hk
  have hA : ∀ q, zk_A σ ad H.size q → zk_A σ ad s.heap.size q := fun q h => h.elim Or.inl (fun h => Or.inr (Nat.le_trans hS.1 h))
  obtain ⟨t2, a1, b1⟩ := kk r M1 L1 T'.heap (locs ++ L2) hq (by rw [e1]; exact ⟨hH1.1, hH1.2.weaken (fun k q _ h => hA _ h)⟩) ⟨Nat.le_trans hS.1 (by rw [e1]; exact hz), fun q h1 h2 => by rw [e1, hk q (Nat.lt_of_lt_of_le h1 hS.1) (fun z => h2 (hA q z))]; exact hS.2.1 q h1 h2, fun q hq => by
      rcases List.mem_append.mp hq with h | h
      · exact hS.2.2 q h
      · exact hA _ (hL q h)⟩ T' rfl X'
  exact ⟨t2, st t2 a1, b1⟩
/-- a method's own facts: its code among the words, its class, its parameters -/
def zk_MI (μ : zk_I) (n : Nat) : Prop := Cond.code μ.1 μ.2.1 μ.2.2.1 μ.2.2.2.1 ∈ zk_tb ∧ Cond.initialized μ.1.cls ∈ zk_tb ∧ (μ.1.cls ≠ "java/lang/invoke/MethodHandle" ∧ μ.1.cls ≠ "java/lang/invoke/VarHandle" ∧ (parseMethodDescriptor μ.1.desc).map (fun d => d.parameters.length) = some n) ∧ μ.2.2.1 ≤ 19
theorem zk_gd {n : Nat} (h : zk_MI μ n) : GoodIn zk_tb (zk_wd μ) := fun w hw => by
  rcases List.mem_cons.mp hw with e | h'
  · rw [e]; exact ⟨h.1, zk_good _ h.1⟩
  · exact ⟨h', zk_good _ h'⟩
theorem zk_room {n : Nat} (h : zk_MI μ n) (hd : d' + 1 ≤ d) : (zk_rm d').frames + 1 ≤ (zk_rm d).frames ∧ 8 + (μ.2.2.1 + 11) + (zk_rm d').locals ≤ (zk_rm d).locals := by
  have := h.2.2.2
  refine ⟨hd, ?_⟩
  show 8 + (μ.2.2.1 + 11) + 38 * d' ≤ 38 * d
  omega
theorem zk_nw_tab : ∀ w ∈ zk_nw, w.onTables = true := fun w h => by
  have h2 := (List.mem_filter.mp h).2
  cases w <;> first | rfl | (exact absurd h2 (fun q => by cases q))
theorem zk_nw_warm {s U : State} (hW : s.WarmedH U.vm) (h : ∀ w ∈ zk_nw, va_Nw w s) : ∀ w ∈ zk_nw, va_Nw w U := fun w hw => by
  have h1 := h w hw
  have h2 := (List.mem_filter.mp hw).2
  cases w <;> first | exact va_Nw.warmM hW h1 | (exact absurd h2 (fun q => by cases q))
theorem zk_blind {ad : Nat → Nat} {cs : ClassId × ClassId × ClassId} {D : va_G} {sz : Nat} {av : List Value} : FrameBlind (va_Pc av (fun U => U.heap.size = sz ∧ zk_H σ ad cs D (fun _ => True) M L U.heap ∧ va_K D vwCl (zk_ty cs) U ∧ ∀ w ∈ zk_nw, va_Nw w U)) := by
  intro a U g mk q
  obtain ⟨q0, q1, q2, q3, q4⟩ := q
  exact ⟨q0, q1, q2, va_K.moved (u := U) (U := U.calling g mk a) (Vm.Alike.refl U.vm) q3, fun w hw => va_Nw.same (u := U) (U := U.calling g mk a) (zk_nw_tab w hw) rfl (q4 w hw)⟩
theorem zk_toL {ad : Nat → Nat} {r : Option Value} {rest : List Value} : (r.map (zk_mv ad)).toList ++ rest.map (zk_mv ad) = (r.toList ++ rest).map (zk_mv ad) := by cases r <;> rfl
theorem zk_cats {ad : Nat → Nat} {rest : List Value} : ((rest.map (zk_mv ad)).map fun v => v.category) = rest.map fun v => v.category := by
  rw [List.map_map]
  exact List.map_congr_left (fun v _ => zk_mv_cat ad v)
theorem zk_callS {n idx : Nat} (hc : zk_C l σ d' μ' as M L Q') (hd : decode μ.2.1 pc = .ok (.invokestatic idx, 3)) (hi : zk_MI μ' n) (hlk : Cond.methodLink μ.2.2.2.2 idx μ'.1 ∈ zk_tb) (hst : Cond.static μ'.1 ∈ zk_tb) (hn : as.length = n) (hdd : d' + 1 ≤ d) (hs : st = as.reverse ++ rest) (hcat : (rest.map fun v => v.category).sum ≤ 8)
    (kk : ∀ (r : Option Value) (M1 : zk_M) (L1 : zk_L), Q' r M1 L1 → zk_R l σ d μ (pc + 3) ls (r.toList ++ rest) M1 L1 Q) : zk_R l σ d μ pc ls st M L Q := by
  intro p e s m args below meth c ad cs D H locs lsA X hH hS hl
  subst hs
  have hT := X.2.2.2.2.2.1
  refine zk_goes (rs := rest.map (zk_mv ad)) (va_runS (As := as.map (zk_mv ad)) (rest := rest.map (zk_mv ad)) ⟨X.1, X.2.1, X.2.2.2.1, X.2.2.2.2.1, hT⟩ (hc ad cs D H.size) ⟨callB_of n hT (zk_gd hi) rfl rfl rfl (hT _ hi.2.1) (hT _ hlk) hi.2.2.1 (zk_room hi hdd), hT _ hst⟩ ⟨zk_blind, fun U hU hW => ⟨rfl, by rw [hU], by rw [hU]; exact ⟨hH.1, hH.2.weaken (fun _ _ _ _ => trivial)⟩, va_K.moved hW.alike X.2.2.2.2.2.2.2.2, zk_nw_warm hW X.2.2.2.2.2.2.1⟩⟩ rfl (by simpa using hn) hl.1 (by simp) (lv_room (by rw [zk_cats]; exact hcat)) hd ⟨Nat.le_refl _, Nat.le_refl _⟩) hS (fun r M1 L1 H1 locs1 hq hH1 hS1 => ?_)
  rw [zk_toL]
  exact kk r M1 L1 hq p e s m args below meth c ad cs D H1 locs1 lsA X hH1 hS1 hl
theorem zk_callN {n idx : Nat} {host : String} (hc : zk_C l σ d' μ' as M L Q') (hd : decode μ.2.1 pc = .ok (.invokestatic idx, 3)) (hi : zk_MI μ' n) (hlk : Cond.methodLinkNest μ.2.2.2.2 idx μ'.1 host ∈ zk_nw) (hst : Cond.static μ'.1 ∈ zk_tb) (hn : as.length = n) (hdd : d' + 1 ≤ d) (hs : st = as.reverse ++ rest) (hcat : (rest.map fun v => v.category).sum ≤ 8)
    (kk : ∀ (r : Option Value) (M1 : zk_M) (L1 : zk_L), Q' r M1 L1 → zk_R l σ d μ (pc + 3) ls (r.toList ++ rest) M1 L1 Q) : zk_R l σ d μ pc ls st M L Q := by
  intro p e s m args below meth c ad cs D H locs lsA X hH hS hl
  subst hs
  have hT := X.2.2.2.2.2.1
  refine zk_goes (rs := rest.map (zk_mv ad)) (va_runSN (As := as.map (zk_mv ad)) (rest := rest.map (zk_mv ad)) ⟨X.1, X.2.1, X.2.2.2.1, X.2.2.2.2.1, hT⟩ (hc ad cs D H.size) ⟨va_cnB n hT (zk_gd hi) rfl rfl rfl (X.2.2.2.2.2.2.1 _ hlk) (hT _ hi.2.1) hi.2.2.1 (zk_room hi hdd), hT _ hst, trivial⟩ ⟨zk_blind, fun U hU hW => ⟨rfl, by rw [hU], by rw [hU]; exact ⟨hH.1, hH.2.weaken (fun _ _ _ _ => trivial)⟩, va_K.moved hW.alike X.2.2.2.2.2.2.2.2, zk_nw_warm hW X.2.2.2.2.2.2.1⟩⟩ rfl (by simpa using hn) hl.1 (by simp) (lv_room (by rw [zk_cats]; exact hcat)) hd ⟨Nat.le_refl _, Nat.le_refl _⟩) hS (fun r M1 L1 H1 locs1 hq hH1 hS1 => ?_)
  rw [zk_toL]
  exact kk r M1 L1 hq p e s m args below meth c ad cs D H1 locs1 lsA X hH1 hS1 hl
/-- an instance method's facts: its class's number -/
def zk_MV (μ : zk_I) (n c : Nat) : Prop := zk_MI μ n ∧ Cond.instanceMethod μ.1 ∈ zk_tb ∧ Cond.selects μ.1.cls μ.1 μ.1 ∈ zk_tb ∧ ∃ (T : u_T) (N : Nat), vwCl[c]? = some (μ.1.cls, T, N)
theorem zk_callV {n idx ci o : Nat} (hc : zk_C l σ d' μ' (.ref o :: as) M L Q') (hd : decode μ.2.1 pc = .ok (.invokevirtual idx, 3)) (hi : zk_MV μ' n ci) (hlk : Cond.methodLink μ.2.2.2.2 idx μ'.1 ∈ zk_tb) (ho : o < σ.1) (hk : σ.2.1 o = ci) (hn : as.length = n) (hdd : d' + 1 ≤ d) (hs : st = as.reverse ++ .ref o :: rest) (hcat : (rest.map fun v => v.category).sum ≤ 8)
    (kk : ∀ (r : Option Value) (M1 : zk_M) (L1 : zk_L), Q' r M1 L1 → zk_R l σ d μ (pc + 3) ls (r.toList ++ rest) M1 L1 Q) : zk_R l σ d μ pc ls st M L Q := by
  intro p e s m args below meth c ad cs D H locs lsA X hH hS hl
  subst hs
  have hT := X.2.2.2.2.2.1
  obtain ⟨hi, hin, hse, TT, NN, hcl⟩ := hi
  have hrecv := va_recv (q0 := o) (a := ad o) X.2.2.2.2.2.2.2.2 hH.1 hcl (by rw [zk_at ho, zk_ent_o hk (zk_c6 hcl)])
  refine zk_goes (rs := rest.map (zk_mv ad)) (va_runV (As := as.map (zk_mv ad)) (rest := rest.map (zk_mv ad)) (b := ad o) (C := μ'.1.cls) ⟨X.1, X.2.1, X.2.2.2.1, X.2.2.2.2.1, hT⟩ (hc ad cs D H.size) ⟨callB_of n hT (zk_gd hi) rfl rfl rfl (hT _ hi.2.1) (hT _ hlk) hi.2.2.1 (zk_room hi hdd), hT _ hin, hT _ hse⟩ ⟨zk_blind, hrecv, fun U hU hW => ⟨rfl, by rw [hU], by rw [hU]; exact ⟨hH.1, hH.2.weaken (fun _ _ _ _ => trivial)⟩, va_K.moved hW.alike X.2.2.2.2.2.2.2.2, zk_nw_warm hW X.2.2.2.2.2.2.1⟩⟩ rfl (by simpa using hn) hl.1 (by simp [zk_mv]) (lv_room (by rw [zk_cats]; exact hcat)) hd ⟨Nat.le_refl _, Nat.le_refl _⟩) hS (fun r M1 L1 H1 locs1 hq hH1 hS1 => ?_)
  rw [zk_toL]
  exact kk r M1 L1 hq p e s m args below meth c ad cs D H1 locs1 lsA X hH1 hS1 hl

theorem zk_cSi {n idx : Nat} {v : Int32} (hc : zk_C l σ d' μ' as M L (zk_Ei v M1 L1)) (hd : decode μ.2.1 pc = .ok (.invokestatic idx, 3)) (hi : zk_MI μ' n) (hlk : Cond.methodLink μ.2.2.2.2 idx μ'.1 ∈ zk_tb) (hst : Cond.static μ'.1 ∈ zk_tb) (hn : as.length = n) (hdd : d' + 1 ≤ d) (hs : st = as.reverse ++ rest) (hcat : (rest.map fun v => v.category).sum ≤ 8) (kk : zk_R l σ d μ (pc + 3) ls (.int v :: rest) M1 L1 Q) : zk_R l σ d μ pc ls st M L Q :=
  zk_callS hc hd hi hlk hst hn hdd hs hcat (fun r M2 L2 h => by obtain ⟨rfl, rfl, rfl⟩ := h; exact kk)
theorem zk_cSl {n idx : Nat} {v : Int64} (hc : zk_C l σ d' μ' as M L (zk_El v M1 L1)) (hd : decode μ.2.1 pc = .ok (.invokestatic idx, 3)) (hi : zk_MI μ' n) (hlk : Cond.methodLink μ.2.2.2.2 idx μ'.1 ∈ zk_tb) (hst : Cond.static μ'.1 ∈ zk_tb) (hn : as.length = n) (hdd : d' + 1 ≤ d) (hs : st = as.reverse ++ rest) (hcat : (rest.map fun v => v.category).sum ≤ 8) (kk : zk_R l σ d μ (pc + 3) ls (.long v :: rest) M1 L1 Q) : zk_R l σ d μ pc ls st M L Q :=
  zk_callS hc hd hi hlk hst hn hdd hs hcat (fun r M2 L2 h => by obtain ⟨rfl, rfl, rfl⟩ := h; exact kk)
theorem zk_cSv {n idx : Nat}  (hc : zk_C l σ d' μ' as M L (zk_Ev M1 L1)) (hd : decode μ.2.1 pc = .ok (.invokestatic idx, 3)) (hi : zk_MI μ' n) (hlk : Cond.methodLink μ.2.2.2.2 idx μ'.1 ∈ zk_tb) (hst : Cond.static μ'.1 ∈ zk_tb) (hn : as.length = n) (hdd : d' + 1 ≤ d) (hs : st = as.reverse ++ rest) (hcat : (rest.map fun v => v.category).sum ≤ 8) (kk : zk_R l σ d μ (pc + 3) ls (rest) M1 L1 Q) : zk_R l σ d μ pc ls st M L Q :=
  zk_callS hc hd hi hlk hst hn hdd hs hcat (fun r M2 L2 h => by obtain ⟨rfl, rfl, rfl⟩ := h; exact kk)
theorem zk_cNi {n idx : Nat} {host : String} {v : Int32} (hc : zk_C l σ d' μ' as M L (zk_Ei v M1 L1)) (hd : decode μ.2.1 pc = .ok (.invokestatic idx, 3)) (hi : zk_MI μ' n) (hlk : Cond.methodLinkNest μ.2.2.2.2 idx μ'.1 host ∈ zk_nw) (hst : Cond.static μ'.1 ∈ zk_tb) (hn : as.length = n) (hdd : d' + 1 ≤ d) (hs : st = as.reverse ++ rest) (hcat : (rest.map fun v => v.category).sum ≤ 8) (kk : zk_R l σ d μ (pc + 3) ls (.int v :: rest) M1 L1 Q) : zk_R l σ d μ pc ls st M L Q :=
  zk_callN hc hd hi hlk hst hn hdd hs hcat (fun r M2 L2 h => by obtain ⟨rfl, rfl, rfl⟩ := h; exact kk)
theorem zk_cNl {n idx : Nat} {host : String} {v : Int64} (hc : zk_C l σ d' μ' as M L (zk_El v M1 L1)) (hd : decode μ.2.1 pc = .ok (.invokestatic idx, 3)) (hi : zk_MI μ' n) (hlk : Cond.methodLinkNest μ.2.2.2.2 idx μ'.1 host ∈ zk_nw) (hst : Cond.static μ'.1 ∈ zk_tb) (hn : as.length = n) (hdd : d' + 1 ≤ d) (hs : st = as.reverse ++ rest) (hcat : (rest.map fun v => v.category).sum ≤ 8) (kk : zk_R l σ d μ (pc + 3) ls (.long v :: rest) M1 L1 Q) : zk_R l σ d μ pc ls st M L Q :=
  zk_callN hc hd hi hlk hst hn hdd hs hcat (fun r M2 L2 h => by obtain ⟨rfl, rfl, rfl⟩ := h; exact kk)
theorem zk_cNv {n idx : Nat} {host : String}  (hc : zk_C l σ d' μ' as M L (zk_Ev M1 L1)) (hd : decode μ.2.1 pc = .ok (.invokestatic idx, 3)) (hi : zk_MI μ' n) (hlk : Cond.methodLinkNest μ.2.2.2.2 idx μ'.1 host ∈ zk_nw) (hst : Cond.static μ'.1 ∈ zk_tb) (hn : as.length = n) (hdd : d' + 1 ≤ d) (hs : st = as.reverse ++ rest) (hcat : (rest.map fun v => v.category).sum ≤ 8) (kk : zk_R l σ d μ (pc + 3) ls (rest) M1 L1 Q) : zk_R l σ d μ pc ls st M L Q :=
  zk_callN hc hd hi hlk hst hn hdd hs hcat (fun r M2 L2 h => by obtain ⟨rfl, rfl, rfl⟩ := h; exact kk)
theorem zk_cVi {n idx ci o : Nat} {v : Int32} (hc : zk_C l σ d' μ' (.ref o :: as) M L (zk_Ei v M1 L1)) (hd : decode μ.2.1 pc = .ok (.invokevirtual idx, 3)) (hi : zk_MV μ' n ci) (hlk : Cond.methodLink μ.2.2.2.2 idx μ'.1 ∈ zk_tb) (ho : o < σ.1) (hk : σ.2.1 o = ci) (hn : as.length = n) (hdd : d' + 1 ≤ d) (hs : st = as.reverse ++ .ref o :: rest) (hcat : (rest.map fun v => v.category).sum ≤ 8) (kk : zk_R l σ d μ (pc + 3) ls (.int v :: rest) M1 L1 Q) : zk_R l σ d μ pc ls st M L Q :=
  zk_callV hc hd hi hlk ho hk hn hdd hs hcat (fun r M2 L2 h => by obtain ⟨rfl, rfl, rfl⟩ := h; exact kk)
theorem zk_cVl {n idx ci o : Nat} {v : Int64} (hc : zk_C l σ d' μ' (.ref o :: as) M L (zk_El v M1 L1)) (hd : decode μ.2.1 pc = .ok (.invokevirtual idx, 3)) (hi : zk_MV μ' n ci) (hlk : Cond.methodLink μ.2.2.2.2 idx μ'.1 ∈ zk_tb) (ho : o < σ.1) (hk : σ.2.1 o = ci) (hn : as.length = n) (hdd : d' + 1 ≤ d) (hs : st = as.reverse ++ .ref o :: rest) (hcat : (rest.map fun v => v.category).sum ≤ 8) (kk : zk_R l σ d μ (pc + 3) ls (.long v :: rest) M1 L1 Q) : zk_R l σ d μ pc ls st M L Q :=
  zk_callV hc hd hi hlk ho hk hn hdd hs hcat (fun r M2 L2 h => by obtain ⟨rfl, rfl, rfl⟩ := h; exact kk)
theorem zk_cVv {n idx ci o : Nat}  (hc : zk_C l σ d' μ' (.ref o :: as) M L (zk_Ev M1 L1)) (hd : decode μ.2.1 pc = .ok (.invokevirtual idx, 3)) (hi : zk_MV μ' n ci) (hlk : Cond.methodLink μ.2.2.2.2 idx μ'.1 ∈ zk_tb) (ho : o < σ.1) (hk : σ.2.1 o = ci) (hn : as.length = n) (hdd : d' + 1 ≤ d) (hs : st = as.reverse ++ .ref o :: rest) (hcat : (rest.map fun v => v.category).sum ≤ 8) (kk : zk_R l σ d μ (pc + 3) ls (rest) M1 L1 Q) : zk_R l σ d μ pc ls st M L Q :=
  zk_callV hc hd hi hlk ho hk hn hdd hs hcat (fun r M2 L2 h => by obtain ⟨rfl, rfl, rfl⟩ := h; exact kk)
theorem zk_mmin {idx : Nat} {x y : Int32} (hd : decode μ.2.1 pc = .ok (.invokestatic idx, 3)) (hlk : Cond.methodLink μ.2.2.2.2 idx Lib.Math.min.name ∈ zk_tb) (hst : Cond.static Lib.Math.min.name ∈ zk_tb) (hin : Cond.initialized "java/lang/Math" ∈ zk_tb) (hco : Cond.code Lib.Math.min.name Lib.Math.min.code 2 (some .int) ∈ zk_tb) (hdd : 1 ≤ d) (hcat : (rest.map fun v => v.category).sum ≤ 8) (kk : zk_R l σ d μ (pc + 3) ls (.int (if y < x then y else x) :: rest) M L Q) : zk_R l σ d μ (pc) ls (.int y :: .int x :: rest) M L Q := by
  intro p e s m args below meth c ad cs D H locs lsA X hH hS hl
  have hT := X.2.2.2.2.2.1
  exact va_mmin X.1 X.2.1 (X.2.2.2.1.trans hl.1.symm) X.2.2.2.2.1 (hT _ hlk) (hT _ hst) (hT _ hin) (hT _ hco) hdd (by rw [zk_cats]; show _ + 13 ≤ 38 * d; omega) (Nat.le_refl _) (Nat.le_refl _) hd (kk p e s m args below meth c ad cs D H locs lsA X hH hS hl)
theorem zk_mmax {idx : Nat} {x y : Int32} (hd : decode μ.2.1 pc = .ok (.invokestatic idx, 3)) (hlk : Cond.methodLink μ.2.2.2.2 idx Lib.Math.max.name ∈ zk_tb) (hst : Cond.static Lib.Math.max.name ∈ zk_tb) (hin : Cond.initialized "java/lang/Math" ∈ zk_tb) (hco : Cond.code Lib.Math.max.name Lib.Math.max.code 2 (some .int) ∈ zk_tb) (hdd : 1 ≤ d) (hcat : (rest.map fun v => v.category).sum ≤ 8) (kk : zk_R l σ d μ (pc + 3) ls (.int (if x < y then y else x) :: rest) M L Q) : zk_R l σ d μ (pc) ls (.int y :: .int x :: rest) M L Q := by
  intro p e s m args below meth c ad cs D H locs lsA X hH hS hl
  have hT := X.2.2.2.2.2.1
  exact va_mmax X.1 X.2.1 (X.2.2.2.1.trans hl.1.symm) X.2.2.2.2.1 (hT _ hlk) (hT _ hst) (hT _ hin) (hT _ hco) hdd (by rw [zk_cats]; show _ + 13 ≤ 38 * d; omega) (Nat.le_refl _) (Nat.le_refl _) hd (kk p e s m args below meth c ad cs D H locs lsA X hH hS hl)
theorem zk_copy {idx o0 o1 : Nat} {sp dp n : Int32} (hd : decode μ.2.1 pc = .ok (.invokestatic idx, 3)) (hlk : Cond.methodLink μ.2.2.2.2 idx arraycopyName ∈ zk_tb) (hna : Cond.native arraycopyName ∈ zk_tb) (hst : Cond.static arraycopyName ∈ zk_tb) (hin : Cond.initialized "java/lang/System" ∈ zk_tb) (ho0 : o0 < σ.1) (hc0 : σ.2.1 o0 = 100) (ho1 : o1 < σ.1) (hc1 : σ.2.1 o1 = 100) (h1 : ¬ sp < 0) (h2 : ¬ dp < 0) (h3 : ¬ n < 0) (h4 : sp.toNatClampNeg + n.toNatClampNeg ≤ σ.2.2.1 o0) (h5 : dp.toNatClampNeg + n.toNatClampNeg ≤ σ.2.2.1 o1) (hdd : 1 ≤ d) (hcat : (rest.map fun v => v.category).sum + (nativeFrameWords "java/lang/System" "arraycopy" 5 + 11) ≤ 38 * d)
    (kk : zk_R l σ d μ (pc + 3) ls (rest) (va_up M o1 (va_cpy (M o0) (M o1) sp.toNatClampNeg dp.toNatClampNeg n.toNatClampNeg)) L Q) : zk_R l σ d μ (pc) ls (.int n :: .int dp :: .ref o1 :: .int sp :: .ref o0 :: rest) M L Q := by
  intro p e s m args below meth c ad cs D H locs lsA X hH hS hl
  have hT := X.2.2.2.2.2.1
  refine va_copyi (D := D) (tys := zk_ty cs) X.1 X.2.1 (X.2.2.2.1.trans hl.1.symm) X.2.2.2.2.1 (hT _ hlk) (hT _ hna) (hT _ hst) (hT _ hin) X.2.2.2.2.2.2.2.2 hH.1 hH.2 hS o0 o1 0 0 (a0 := ad o0) (a := ad o1) (by rw [zk_at ho0, zk_ent_i hc0]) (by rw [zk_at ho1, zk_ent_i hc1]) rfl rfl rfl h1 h2 h3 h4 h5 (fun _ _ => rfl) hdd (by rw [zk_cats]; exact hcat) hd (fun H1 locs1 hP hD hS1 => ?_)
  have e1 : (Sum.inl (cs.1, σ.2.2.1 o1, Sum.inl (va_cpy (M o0) (M o1) sp.toNatClampNeg dp.toNatClampNeg n.toNatClampNeg)) : va_E) = zk_ent ad cs σ (va_up M o1 (va_cpy (M o0) (M o1) sp.toNatClampNeg dp.toNatClampNeg n.toNatClampNeg)) L o1 := by rw [zk_ent_i hc1, zk_up_eq]
  rw [e1, zk_setM] at hP hD
  exact kk p e s m args below meth c ad cs D H1 locs1 lsA X ⟨hP, hD⟩ hS1 hl
end ZKC
end
section
theorem zk_u0 : ∀ w ∈ u_ws RX0 TX0 4, w ∈ zk_tb := fun w h => List.mem_filter.mpr ⟨(by decide +kernel : ∀ w ∈ u_ws RX0 TX0 4, w ∈ lw_tbl) w h, (by decide +kernel : ∀ w ∈ u_ws RX0 TX0 4, goodWord w = true) w h⟩
theorem ft_0_2 : zk_FT 0 2 .int := fun C T N h => by
  have e : (RX0, TX0, 4) = (C, T, N) := Option.some.inj h
  cases e
  exact ⟨⟨tyX0, tyX0_ok⟩, nmX0, rfl, by decide +kernel⟩
theorem ft_0_3 : zk_FT 0 3 .int := fun C T N h => by
  have e : (RX0, TX0, 4) = (C, T, N) := Option.some.inj h
  cases e
  exact ⟨⟨tyX0, tyX0_ok⟩, nmX0, rfl, by decide +kernel⟩
theorem zk_u1 : ∀ w ∈ u_ws RX1 TX1 7, w ∈ zk_tb := fun w h => List.mem_filter.mpr ⟨(by decide +kernel : ∀ w ∈ u_ws RX1 TX1 7, w ∈ lw_tbl) w h, (by decide +kernel : ∀ w ∈ u_ws RX1 TX1 7, goodWord w = true) w h⟩
theorem ft_1_0 : zk_FT 1 0 .int := fun C T N h => by
  have e : (RX1, TX1, 7) = (C, T, N) := Option.some.inj h
  cases e
  exact ⟨⟨tyX1, tyX1_ok⟩, nmX1, rfl, by decide +kernel⟩
theorem ft_1_1 : zk_FT 1 1 .int := fun C T N h => by
  have e : (RX1, TX1, 7) = (C, T, N) := Option.some.inj h
  cases e
  exact ⟨⟨tyX1, tyX1_ok⟩, nmX1, rfl, by decide +kernel⟩
theorem ft_1_2 : zk_FT 1 2 .int := fun C T N h => by
  have e : (RX1, TX1, 7) = (C, T, N) := Option.some.inj h
  cases e
  exact ⟨⟨tyX1, tyX1_ok⟩, nmX1, rfl, by decide +kernel⟩
theorem ft_1_3 : zk_FT 1 3 .int := fun C T N h => by
  have e : (RX1, TX1, 7) = (C, T, N) := Option.some.inj h
  cases e
  exact ⟨⟨tyX1, tyX1_ok⟩, nmX1, rfl, by decide +kernel⟩
theorem ft_1_4 : zk_FT 1 4 .int := fun C T N h => by
  have e : (RX1, TX1, 7) = (C, T, N) := Option.some.inj h
  cases e
  exact ⟨⟨tyX1, tyX1_ok⟩, nmX1, rfl, by decide +kernel⟩
theorem ft_1_5 : zk_FT 1 5 .int := fun C T N h => by
  have e : (RX1, TX1, 7) = (C, T, N) := Option.some.inj h
  cases e
  exact ⟨⟨tyX1, tyX1_ok⟩, nmX1, rfl, by decide +kernel⟩
theorem ft_1_6 : zk_FT 1 6 .int := fun C T N h => by
  have e : (RX1, TX1, 7) = (C, T, N) := Option.some.inj h
  cases e
  exact ⟨⟨tyX1, tyX1_ok⟩, nmX1, rfl, by decide +kernel⟩
theorem zk_u2 : ∀ w ∈ u_ws RX2 TX2 2, w ∈ zk_tb := fun w h => List.mem_filter.mpr ⟨(by decide +kernel : ∀ w ∈ u_ws RX2 TX2 2, w ∈ lw_tbl) w h, (by decide +kernel : ∀ w ∈ u_ws RX2 TX2 2, goodWord w = true) w h⟩
theorem zk_u3 : ∀ w ∈ u_ws RX3 TX3 2, w ∈ zk_tb := fun w h => List.mem_filter.mpr ⟨(by decide +kernel : ∀ w ∈ u_ws RX3 TX3 2, w ∈ lw_tbl) w h, (by decide +kernel : ∀ w ∈ u_ws RX3 TX3 2, goodWord w = true) w h⟩
theorem ft_3_1 : zk_FT 3 1 .int := fun C T N h => by
  have e : (RX3, TX3, 2) = (C, T, N) := Option.some.inj h
  cases e
  exact ⟨⟨tyX3, tyX3_ok⟩, nmX3, rfl, by decide +kernel⟩
theorem zk_u4 : ∀ w ∈ u_ws RX4 TX4 14, w ∈ zk_tb := fun w h => List.mem_filter.mpr ⟨(by decide +kernel : ∀ w ∈ u_ws RX4 TX4 14, w ∈ lw_tbl) w h, (by decide +kernel : ∀ w ∈ u_ws RX4 TX4 14, goodWord w = true) w h⟩
theorem ft_4_12 : zk_FT 4 12 .int := fun C T N h => by
  have e : (RX4, TX4, 14) = (C, T, N) := Option.some.inj h
  cases e
  exact ⟨⟨tyX4, tyX4_ok⟩, nmX4, rfl, by decide +kernel⟩
theorem ft_4_13 : zk_FT 4 13 .boolean := fun C T N h => by
  have e : (RX4, TX4, 14) = (C, T, N) := Option.some.inj h
  cases e
  exact ⟨⟨tyX4, tyX4_ok⟩, nmX4, rfl, by decide +kernel⟩
theorem zk_u5 : ∀ w ∈ u_ws RX5 TX5 15, w ∈ zk_tb := fun w h => List.mem_filter.mpr ⟨(by decide +kernel : ∀ w ∈ u_ws RX5 TX5 15, w ∈ lw_tbl) w h, (by decide +kernel : ∀ w ∈ u_ws RX5 TX5 15, goodWord w = true) w h⟩
theorem ft_5_5 : zk_FT 5 5 .boolean := fun C T N h => by
  have e : (RX5, TX5, 15) = (C, T, N) := Option.some.inj h
  cases e
  exact ⟨⟨tyX5, tyX5_ok⟩, nmX5, rfl, by decide +kernel⟩
theorem ft_5_9 : zk_FT 5 9 .int := fun C T N h => by
  have e : (RX5, TX5, 15) = (C, T, N) := Option.some.inj h
  cases e
  exact ⟨⟨tyX5, tyX5_ok⟩, nmX5, rfl, by decide +kernel⟩
theorem ft_5_10 : zk_FT 5 10 .int := fun C T N h => by
  have e : (RX5, TX5, 15) = (C, T, N) := Option.some.inj h
  cases e
  exact ⟨⟨tyX5, tyX5_ok⟩, nmX5, rfl, by decide +kernel⟩
theorem ft_5_11 : zk_FT 5 11 .int := fun C T N h => by
  have e : (RX5, TX5, 15) = (C, T, N) := Option.some.inj h
  cases e
  exact ⟨⟨tyX5, tyX5_ok⟩, nmX5, rfl, by decide +kernel⟩
theorem ft_5_14 : zk_FT 5 14 .int := fun C T N h => by
  have e : (RX5, TX5, 15) = (C, T, N) := Option.some.inj h
  cases e
  exact ⟨⟨tyX5, tyX5_ok⟩, nmX5, rfl, by decide +kernel⟩
theorem in_L : Cond.initialized RL ∈ zk_tb := zk_in 48 (by decide +kernel) (by decide +kernel)
theorem in_X4 : Cond.initialized RX4 ∈ zk_tb := zk_in 49 (by decide +kernel) (by decide +kernel)
theorem in_X0 : Cond.initialized RX0 ∈ zk_tb := zk_in 50 (by decide +kernel) (by decide +kernel)
theorem in_X2 : Cond.initialized RX2 ∈ zk_tb := zk_in 51 (by decide +kernel) (by decide +kernel)
theorem in_J9 : Cond.initialized RJ9 ∈ zk_tb := zk_in 52 (by decide +kernel) (by decide +kernel)
theorem in_X1 : Cond.initialized RX1 ∈ zk_tb := zk_in 53 (by decide +kernel) (by decide +kernel)
theorem in_X3 : Cond.initialized RX3 ∈ zk_tb := zk_in 54 (by decide +kernel) (by decide +kernel)
theorem in_X5 : Cond.initialized RX5 ∈ zk_tb := zk_in 55 (by decide +kernel) (by decide +kernel)
theorem in_J10 : Cond.initialized RJ10 ∈ zk_tb := zk_in 56 (by decide +kernel) (by decide +kernel)
theorem in_J6 : Cond.initialized RJ6 ∈ zk_tb := zk_in 57 (by decide +kernel) (by decide +kernel)
abbrev muX4_init : zk_I := (yX4_init, cX4_init, 1, none, RX4)
theorem miX4_init : zk_MI muX4_init 0 := ⟨zk_in 62 (by decide +kernel) (by decide +kernel), in_X4, by decide +kernel, by decide⟩
abbrev muX0_init : zk_I := (yX0_init, cX0_init, 2, none, RX0)
theorem miX0_init : zk_MI muX0_init 0 := ⟨zk_in 70 (by decide +kernel) (by decide +kernel), in_X0, by decide +kernel, by decide⟩
abbrev muX2_init : zk_I := (yX2_init, cX2_init, 1, none, RX2)
theorem miX2_init : zk_MI muX2_init 0 := ⟨zk_in 76 (by decide +kernel) (by decide +kernel), in_X2, by decide +kernel, by decide⟩
abbrev muX2_reckonSteps : zk_I := (yX2_reckonSteps, cX2_reckonSteps, 5, none, RX2)
theorem miX2_reckonSteps : zk_MI muX2_reckonSteps 0 := ⟨zk_in 81 (by decide +kernel) (by decide +kernel), in_X2, by decide +kernel, by decide⟩
theorem mwX2_reckonSteps : zk_MV muX2_reckonSteps 0 2 := ⟨miX2_reckonSteps, zk_in 80 (by decide +kernel) (by decide +kernel), zk_in 0 (by decide +kernel) (by decide +kernel), _, _, rfl⟩
abbrev muX2_joins : zk_I := (yX2_joins, cX2_joins, 3, (some .boolean), RX2)
theorem miX2_joins : zk_MI muX2_joins 2 := ⟨zk_in 85 (by decide +kernel) (by decide +kernel), in_X2, by decide +kernel, by decide⟩
theorem mwX2_joins : zk_MV muX2_joins 2 2 := ⟨miX2_joins, zk_in 83 (by decide +kernel) (by decide +kernel), zk_in 84 (by decide +kernel) (by decide +kernel), _, _, rfl⟩
abbrev muX4_isPlace : zk_I := (yX4_isPlace, cX4_isPlace, 1, (some .boolean), RX4)
theorem miX4_isPlace : zk_MI muX4_isPlace 1 := ⟨zk_in 88 (by decide +kernel) (by decide +kernel), in_X4, by decide +kernel, by decide⟩
theorem stX4_isPlace : Cond.static yX4_isPlace ∈ zk_tb := zk_in 87 (by decide +kernel) (by decide +kernel)
theorem co_mmin : Cond.code Lib.Math.min.name Lib.Math.min.code 2 (some .int) ∈ zk_tb := zk_in 91 (by decide +kernel) (by decide +kernel)
abbrev muX1_init : zk_I := (yX1_init, cX1_init, 1, none, RX1)
theorem miX1_init : zk_MI muX1_init 0 := ⟨zk_in 106 (by decide +kernel) (by decide +kernel), in_X1, by decide +kernel, by decide⟩
abbrev muX3_init : zk_I := (yX3_init, cX3_init, 1, none, RX3)
theorem miX3_init : zk_MI muX3_init 0 := ⟨zk_in 169 (by decide +kernel) (by decide +kernel), in_X3, by decide +kernel, by decide⟩
abbrev muX4_letter : zk_I := (yX4_letter, cX4_letter, 2, (some .int), RX4)
theorem miX4_letter : zk_MI muX4_letter 1 := ⟨zk_in 226 (by decide +kernel) (by decide +kernel), in_X4, by decide +kernel, by decide⟩
theorem mwX4_letter : zk_MV muX4_letter 1 4 := ⟨miX4_letter, zk_in 224 (by decide +kernel) (by decide +kernel), zk_in 225 (by decide +kernel) (by decide +kernel), _, _, rfl⟩
abbrev muX4_refuse : zk_I := (yX4_refuse, cX4_refuse, 2, (some .int), RX4)
theorem miX4_refuse : zk_MI muX4_refuse 1 := ⟨zk_in 230 (by decide +kernel) (by decide +kernel), in_X4, by decide +kernel, by decide⟩
theorem mwX4_refuse : zk_MV muX4_refuse 1 4 := ⟨miX4_refuse, zk_in 229 (by decide +kernel) (by decide +kernel), zk_in 1 (by decide +kernel) (by decide +kernel), _, _, rfl⟩
abbrev muX3_isFull : zk_I := (yX3_isFull, cX3_isFull, 1, (some .boolean), RX3)
theorem miX3_isFull : zk_MI muX3_isFull 0 := ⟨zk_in 234 (by decide +kernel) (by decide +kernel), in_X3, by decide +kernel, by decide⟩
theorem mwX3_isFull : zk_MV muX3_isFull 0 3 := ⟨miX3_isFull, zk_in 232 (by decide +kernel) (by decide +kernel), zk_in 233 (by decide +kernel) (by decide +kernel), _, _, rfl⟩
abbrev muX3_add : zk_I := (yX3_add, cX3_add, 2, (some .int), RX3)
theorem miX3_add : zk_MI muX3_add 1 := ⟨zk_in 238 (by decide +kernel) (by decide +kernel), in_X3, by decide +kernel, by decide⟩
theorem mwX3_add : zk_MV muX3_add 1 3 := ⟨miX3_add, zk_in 236 (by decide +kernel) (by decide +kernel), zk_in 237 (by decide +kernel) (by decide +kernel), _, _, rfl⟩
abbrev muX4_county : zk_I := (yX4_county, cX4_county, 2, (some .int), RX4)
theorem miX4_county : zk_MI muX4_county 0 := ⟨zk_in 243 (by decide +kernel) (by decide +kernel), in_X4, by decide +kernel, by decide⟩
theorem mwX4_county : zk_MV muX4_county 0 4 := ⟨miX4_county, zk_in 241 (by decide +kernel) (by decide +kernel), zk_in 242 (by decide +kernel) (by decide +kernel), _, _, rfl⟩
abbrev muX0_becomes : zk_I := (yX0_becomes, cX0_becomes, 3, none, RX0)
theorem miX0_becomes : zk_MI muX0_becomes 1 := ⟨zk_in 247 (by decide +kernel) (by decide +kernel), in_X0, by decide +kernel, by decide⟩
theorem mwX0_becomes : zk_MV muX0_becomes 1 0 := ⟨miX0_becomes, zk_in 245 (by decide +kernel) (by decide +kernel), zk_in 246 (by decide +kernel) (by decide +kernel), _, _, rfl⟩
abbrev muX2_becomes : zk_I := (yX2_becomes, cX2_becomes, 2, none, RX2)
theorem miX2_becomes : zk_MI muX2_becomes 1 := ⟨zk_in 251 (by decide +kernel) (by decide +kernel), in_X2, by decide +kernel, by decide⟩
theorem mwX2_becomes : zk_MV muX2_becomes 1 2 := ⟨miX2_becomes, zk_in 249 (by decide +kernel) (by decide +kernel), zk_in 250 (by decide +kernel) (by decide +kernel), _, _, rfl⟩
abbrev muX1_becomes : zk_I := (yX1_becomes, cX1_becomes, 2, none, RX1)
theorem miX1_becomes : zk_MI muX1_becomes 1 := ⟨zk_in 258 (by decide +kernel) (by decide +kernel), in_X1, by decide +kernel, by decide⟩
theorem mwX1_becomes : zk_MV muX1_becomes 1 1 := ⟨miX1_becomes, zk_in 256 (by decide +kernel) (by decide +kernel), zk_in 257 (by decide +kernel) (by decide +kernel), _, _, rfl⟩
abbrev muX3_tellTo : zk_I := (yX3_tellTo, cX3_tellTo, 5, (some .int), RX3)
theorem miX3_tellTo : zk_MI muX3_tellTo 1 := ⟨zk_in 262 (by decide +kernel) (by decide +kernel), in_X3, by decide +kernel, by decide⟩
theorem mwX3_tellTo : zk_MV muX3_tellTo 1 3 := ⟨miX3_tellTo, zk_in 260 (by decide +kernel) (by decide +kernel), zk_in 261 (by decide +kernel) (by decide +kernel), _, _, rfl⟩
abbrev muX3_firstUnfit : zk_I := (yX3_firstUnfit, cX3_firstUnfit, 3, (some .int), RX3)
theorem miX3_firstUnfit : zk_MI muX3_firstUnfit 0 := ⟨zk_in 266 (by decide +kernel) (by decide +kernel), in_X3, by decide +kernel, by decide⟩
theorem mwX3_firstUnfit : zk_MV muX3_firstUnfit 0 3 := ⟨miX3_firstUnfit, zk_in 265 (by decide +kernel) (by decide +kernel), zk_in 2 (by decide +kernel) (by decide +kernel), _, _, rfl⟩
abbrev muX3_fits : zk_I := (yX3_fits, cX3_fits, 6, (some .boolean), RX3)
theorem miX3_fits : zk_MI muX3_fits 2 := ⟨zk_in 270 (by decide +kernel) (by decide +kernel), in_X3, by decide +kernel, by decide⟩
theorem mwX3_fits : zk_MV muX3_fits 2 3 := ⟨miX3_fits, zk_in 269 (by decide +kernel) (by decide +kernel), zk_in 3 (by decide +kernel) (by decide +kernel), _, _, rfl⟩
abbrev muX3_signAt : zk_I := (yX3_signAt, cX3_signAt, 2, (some .int), RX3)
theorem miX3_signAt : zk_MI muX3_signAt 1 := ⟨zk_in 274 (by decide +kernel) (by decide +kernel), in_X3, by decide +kernel, by decide⟩
theorem mwX3_signAt : zk_MV muX3_signAt 1 3 := ⟨miX3_signAt, zk_in 273 (by decide +kernel) (by decide +kernel), zk_in 4 (by decide +kernel) (by decide +kernel), _, _, rfl⟩
abbrev muX4_isBelow : zk_I := (yX4_isBelow, cX4_isBelow, 2, (some .boolean), RX4)
theorem miX4_isBelow : zk_MI muX4_isBelow 2 := ⟨zk_in 277 (by decide +kernel) (by decide +kernel), in_X4, by decide +kernel, by decide⟩
theorem stX4_isBelow : Cond.static yX4_isBelow ∈ zk_tb := zk_in 276 (by decide +kernel) (by decide +kernel)
abbrev muX3_lettersOf : zk_I := (yX3_lettersOf, cX3_lettersOf, 1, (some .int), RX3)
theorem miX3_lettersOf : zk_MI muX3_lettersOf 1 := ⟨zk_in 280 (by decide +kernel) (by decide +kernel), in_X3, by decide +kernel, by decide⟩
theorem stX3_lettersOf : Cond.static yX3_lettersOf ∈ zk_tb := zk_in 279 (by decide +kernel) (by decide +kernel)
abbrev muX4_kindOfLetter : zk_I := (yX4_kindOfLetter, cX4_kindOfLetter, 1, (some .int), RX4)
theorem miX4_kindOfLetter : zk_MI muX4_kindOfLetter 1 := ⟨zk_in 283 (by decide +kernel) (by decide +kernel), in_X4, by decide +kernel, by decide⟩
theorem stX4_kindOfLetter : Cond.static yX4_kindOfLetter ∈ zk_tb := zk_in 282 (by decide +kernel) (by decide +kernel)
abbrev muX3_tellStatement : zk_I := (yX3_tellStatement, cX3_tellStatement, 5, (some .boolean), RX3)
theorem miX3_tellStatement : zk_MI muX3_tellStatement 2 := ⟨zk_in 287 (by decide +kernel) (by decide +kernel), in_X3, by decide +kernel, by decide⟩
theorem mwX3_tellStatement : zk_MV muX3_tellStatement 2 3 := ⟨miX3_tellStatement, zk_in 286 (by decide +kernel) (by decide +kernel), zk_in 5 (by decide +kernel) (by decide +kernel), _, _, rfl⟩
abbrev muX3_digitAt : zk_I := (yX3_digitAt, cX3_digitAt, 2, (some .int), RX3)
theorem miX3_digitAt : zk_MI muX3_digitAt 1 := ⟨zk_in 291 (by decide +kernel) (by decide +kernel), in_X3, by decide +kernel, by decide⟩
theorem mwX3_digitAt : zk_MV muX3_digitAt 1 3 := ⟨miX3_digitAt, zk_in 290 (by decide +kernel) (by decide +kernel), zk_in 6 (by decide +kernel) (by decide +kernel), _, _, rfl⟩
abbrev muX0_changeRoad : zk_I := (yX0_changeRoad, cX0_changeRoad, 3, (some .boolean), RX0)
theorem miX0_changeRoad : zk_MI muX0_changeRoad 2 := ⟨zk_in 295 (by decide +kernel) (by decide +kernel), in_X0, by decide +kernel, by decide⟩
theorem mwX0_changeRoad : zk_MV muX0_changeRoad 2 0 := ⟨miX0_changeRoad, zk_in 293 (by decide +kernel) (by decide +kernel), zk_in 294 (by decide +kernel) (by decide +kernel), _, _, rfl⟩
abbrev muX2_change : zk_I := (yX2_change, cX2_change, 3, none, RX2)
theorem miX2_change : zk_MI muX2_change 2 := ⟨zk_in 300 (by decide +kernel) (by decide +kernel), in_X2, by decide +kernel, by decide⟩
theorem mwX2_change : zk_MV muX2_change 2 2 := ⟨miX2_change, zk_in 298 (by decide +kernel) (by decide +kernel), zk_in 299 (by decide +kernel) (by decide +kernel), _, _, rfl⟩
abbrev muX3_tellRider : zk_I := (yX3_tellRider, cX3_tellRider, 4, (some .boolean), RX3)
theorem miX3_tellRider : zk_MI muX3_tellRider 2 := ⟨zk_in 304 (by decide +kernel) (by decide +kernel), in_X3, by decide +kernel, by decide⟩
theorem mwX3_tellRider : zk_MV muX3_tellRider 2 3 := ⟨miX3_tellRider, zk_in 303 (by decide +kernel) (by decide +kernel), zk_in 7 (by decide +kernel) (by decide +kernel), _, _, rfl⟩
abbrev muX0_addRider : zk_I := (yX0_addRider, cX0_addRider, 7, (some .boolean), RX0)
theorem miX0_addRider : zk_MI muX0_addRider 5 := ⟨zk_in 308 (by decide +kernel) (by decide +kernel), in_X0, by decide +kernel, by decide⟩
theorem mwX0_addRider : zk_MV muX0_addRider 5 0 := ⟨miX0_addRider, zk_in 306 (by decide +kernel) (by decide +kernel), zk_in 307 (by decide +kernel) (by decide +kernel), _, _, rfl⟩
abbrev muX1_shoeAnew : zk_I := (yX1_shoeAnew, cX1_shoeAnew, 1, none, RX1)
theorem miX1_shoeAnew : zk_MI muX1_shoeAnew 0 := ⟨zk_in 312 (by decide +kernel) (by decide +kernel), in_X1, by decide +kernel, by decide⟩
theorem mwX1_shoeAnew : zk_MV muX1_shoeAnew 0 1 := ⟨miX1_shoeAnew, zk_in 310 (by decide +kernel) (by decide +kernel), zk_in 311 (by decide +kernel) (by decide +kernel), _, _, rfl⟩
abbrev muX4_shoesOfKind : zk_I := (yX4_shoesOfKind, cX4_shoesOfKind, 1, (some .int), RX4)
theorem miX4_shoesOfKind : zk_MI muX4_shoesOfKind 1 := ⟨zk_in 315 (by decide +kernel) (by decide +kernel), in_X4, by decide +kernel, by decide⟩
theorem stX4_shoesOfKind : Cond.static yX4_shoesOfKind ∈ zk_tb := zk_in 314 (by decide +kernel) (by decide +kernel)
abbrev muX0_shoeAnew : zk_I := (yX0_shoeAnew, cX0_shoeAnew, 2, (some .boolean), RX0)
theorem miX0_shoeAnew : zk_MI muX0_shoeAnew 1 := ⟨zk_in 319 (by decide +kernel) (by decide +kernel), in_X0, by decide +kernel, by decide⟩
theorem mwX0_shoeAnew : zk_MV muX0_shoeAnew 1 0 := ⟨miX0_shoeAnew, zk_in 317 (by decide +kernel) (by decide +kernel), zk_in 318 (by decide +kernel) (by decide +kernel), _, _, rfl⟩
abbrev muX0_hasRider : zk_I := (yX0_hasRider, cX0_hasRider, 2, (some .boolean), RX0)
theorem miX0_hasRider : zk_MI muX0_hasRider 1 := ⟨zk_in 323 (by decide +kernel) (by decide +kernel), in_X0, by decide +kernel, by decide⟩
theorem mwX0_hasRider : zk_MV muX0_hasRider 1 0 := ⟨miX0_hasRider, zk_in 321 (by decide +kernel) (by decide +kernel), zk_in 322 (by decide +kernel) (by decide +kernel), _, _, rfl⟩
abbrev muX0_setGoal : zk_I := (yX0_setGoal, cX0_setGoal, 3, (some .boolean), RX0)
theorem miX0_setGoal : zk_MI muX0_setGoal 2 := ⟨zk_in 327 (by decide +kernel) (by decide +kernel), in_X0, by decide +kernel, by decide⟩
theorem mwX0_setGoal : zk_MV muX0_setGoal 2 0 := ⟨miX0_setGoal, zk_in 325 (by decide +kernel) (by decide +kernel), zk_in 326 (by decide +kernel) (by decide +kernel), _, _, rfl⟩
abbrev muX0_setAt : zk_I := (yX0_setAt, cX0_setAt, 3, (some .boolean), RX0)
theorem miX0_setAt : zk_MI muX0_setAt 2 := ⟨zk_in 331 (by decide +kernel) (by decide +kernel), in_X0, by decide +kernel, by decide⟩
theorem mwX0_setAt : zk_MV muX0_setAt 2 0 := ⟨miX0_setAt, zk_in 329 (by decide +kernel) (by decide +kernel), zk_in 330 (by decide +kernel) (by decide +kernel), _, _, rfl⟩
abbrev muX0_passDays : zk_I := (yX0_passDays, cX0_passDays, 4, (some .boolean), RX0)
theorem miX0_passDays : zk_MI muX0_passDays 1 := ⟨zk_in 335 (by decide +kernel) (by decide +kernel), in_X0, by decide +kernel, by decide⟩
theorem mwX0_passDays : zk_MV muX0_passDays 1 0 := ⟨miX0_passDays, zk_in 333 (by decide +kernel) (by decide +kernel), zk_in 334 (by decide +kernel) (by decide +kernel), _, _, rfl⟩
abbrev muX1_rideDay : zk_I := (yX1_rideDay, cX1_rideDay, 2, none, RX1)
theorem miX1_rideDay : zk_MI muX1_rideDay 1 := ⟨zk_in 339 (by decide +kernel) (by decide +kernel), in_X1, by decide +kernel, by decide⟩
theorem mwX1_rideDay : zk_MV muX1_rideDay 1 1 := ⟨miX1_rideDay, zk_in 337 (by decide +kernel) (by decide +kernel), zk_in 338 (by decide +kernel) (by decide +kernel), _, _, rfl⟩
abbrev muX1_wearIron : zk_I := (yX1_wearIron, cX1_wearIron, 2, none, RX1)
theorem miX1_wearIron : zk_MI muX1_wearIron 0 := ⟨zk_in 343 (by decide +kernel) (by decide +kernel), in_X1, by decide +kernel, by decide⟩
theorem mwX1_wearIron : zk_MV muX1_wearIron 0 1 := ⟨miX1_wearIron, zk_in 341 (by decide +kernel) (by decide +kernel), zk_in 342 (by decide +kernel) (by decide +kernel), _, _, rfl⟩
abbrev muX1_daysForShoe : zk_I := (yX1_daysForShoe, cX1_daysForShoe, 1, (some .int), RX1)
theorem miX1_daysForShoe : zk_MI muX1_daysForShoe 0 := ⟨zk_in 348 (by decide +kernel) (by decide +kernel), in_X1, by decide +kernel, by decide⟩
theorem mwX1_daysForShoe : zk_MV muX1_daysForShoe 0 1 := ⟨miX1_daysForShoe, zk_in 346 (by decide +kernel) (by decide +kernel), zk_in 347 (by decide +kernel) (by decide +kernel), _, _, rfl⟩
abbrev muX4_daysOfKind : zk_I := (yX4_daysOfKind, cX4_daysOfKind, 4, (some .int), RX4)
theorem miX4_daysOfKind : zk_MI muX4_daysOfKind 2 := ⟨zk_in 351 (by decide +kernel) (by decide +kernel), in_X4, by decide +kernel, by decide⟩
theorem stX4_daysOfKind : Cond.static yX4_daysOfKind ∈ zk_tb := zk_in 350 (by decide +kernel) (by decide +kernel)
abbrev muX1_nextFrom : zk_I := (yX1_nextFrom, cX1_nextFrom, 6, (some .int), RX1)
theorem miX1_nextFrom : zk_MI muX1_nextFrom 2 := ⟨zk_in 355 (by decide +kernel) (by decide +kernel), in_X1, by decide +kernel, by decide⟩
theorem mwX1_nextFrom : zk_MV muX1_nextFrom 2 1 := ⟨miX1_nextFrom, zk_in 353 (by decide +kernel) (by decide +kernel), zk_in 354 (by decide +kernel) (by decide +kernel), _, _, rfl⟩
abbrev muX1_pullOf : zk_I := (yX1_pullOf, cX1_pullOf, 3, (some .int), RX1)
theorem miX1_pullOf : zk_MI muX1_pullOf 2 := ⟨zk_in 359 (by decide +kernel) (by decide +kernel), in_X1, by decide +kernel, by decide⟩
theorem mwX1_pullOf : zk_MV muX1_pullOf 2 1 := ⟨miX1_pullOf, zk_in 357 (by decide +kernel) (by decide +kernel), zk_in 358 (by decide +kernel) (by decide +kernel), _, _, rfl⟩
abbrev muX2_stepsBetween : zk_I := (yX2_stepsBetween, cX2_stepsBetween, 3, (some .int), RX2)
theorem miX2_stepsBetween : zk_MI muX2_stepsBetween 2 := ⟨zk_in 363 (by decide +kernel) (by decide +kernel), in_X2, by decide +kernel, by decide⟩
theorem mwX2_stepsBetween : zk_MV muX2_stepsBetween 2 2 := ⟨miX2_stepsBetween, zk_in 361 (by decide +kernel) (by decide +kernel), zk_in 362 (by decide +kernel) (by decide +kernel), _, _, rfl⟩
abbrev muX3_forget : zk_I := (yX3_forget, cX3_forget, 1, none, RX3)
theorem miX3_forget : zk_MI muX3_forget 0 := ⟨zk_in 368 (by decide +kernel) (by decide +kernel), in_X3, by decide +kernel, by decide⟩
theorem mwX3_forget : zk_MV muX3_forget 0 3 := ⟨miX3_forget, zk_in 366 (by decide +kernel) (by decide +kernel), zk_in 367 (by decide +kernel) (by decide +kernel), _, _, rfl⟩
abbrev muX4_rider : zk_I := (yX4_rider, cX4_rider, 4, (some .int), RX4)
theorem miX4_rider : zk_MI muX4_rider 2 := ⟨zk_in 372 (by decide +kernel) (by decide +kernel), in_X4, by decide +kernel, by decide⟩
theorem mwX4_rider : zk_MV muX4_rider 2 4 := ⟨miX4_rider, zk_in 370 (by decide +kernel) (by decide +kernel), zk_in 371 (by decide +kernel) (by decide +kernel), _, _, rfl⟩
abbrev muX4_steps : zk_I := (yX4_steps, cX4_steps, 3, (some .int), RX4)
theorem miX4_steps : zk_MI muX4_steps 2 := ⟨zk_in 378 (by decide +kernel) (by decide +kernel), in_X4, by decide +kernel, by decide⟩
theorem mwX4_steps : zk_MV muX4_steps 2 4 := ⟨miX4_steps, zk_in 376 (by decide +kernel) (by decide +kernel), zk_in 377 (by decide +kernel) (by decide +kernel), _, _, rfl⟩
abbrev muX4_pulls : zk_I := (yX4_pulls, cX4_pulls, 3, (some .int), RX4)
theorem miX4_pulls : zk_MI muX4_pulls 2 := ⟨zk_in 384 (by decide +kernel) (by decide +kernel), in_X4, by decide +kernel, by decide⟩
theorem mwX4_pulls : zk_MV muX4_pulls 2 4 := ⟨miX4_pulls, zk_in 382 (by decide +kernel) (by decide +kernel), zk_in 383 (by decide +kernel) (by decide +kernel), _, _, rfl⟩
abbrev muX4_roads : zk_I := (yX4_roads, cX4_roads, 3, (some .int), RX4)
theorem miX4_roads : zk_MI muX4_roads 2 := ⟨zk_in 389 (by decide +kernel) (by decide +kernel), in_X4, by decide +kernel, by decide⟩
theorem mwX4_roads : zk_MV muX4_roads 2 4 := ⟨miX4_roads, zk_in 387 (by decide +kernel) (by decide +kernel), zk_in 388 (by decide +kernel) (by decide +kernel), _, _, rfl⟩
abbrev muX4_shod : zk_I := (yX4_shod, cX4_shod, 2, (some .int), RX4)
theorem miX4_shod : zk_MI muX4_shod 1 := ⟨zk_in 395 (by decide +kernel) (by decide +kernel), in_X4, by decide +kernel, by decide⟩
theorem mwX4_shod : zk_MV muX4_shod 1 4 := ⟨miX4_shod, zk_in 393 (by decide +kernel) (by decide +kernel), zk_in 394 (by decide +kernel) (by decide +kernel), _, _, rfl⟩
abbrev muX4_wants : zk_I := (yX4_wants, cX4_wants, 4, (some .int), RX4)
theorem miX4_wants : zk_MI muX4_wants 2 := ⟨zk_in 400 (by decide +kernel) (by decide +kernel), in_X4, by decide +kernel, by decide⟩
theorem mwX4_wants : zk_MV muX4_wants 2 4 := ⟨miX4_wants, zk_in 398 (by decide +kernel) (by decide +kernel), zk_in 399 (by decide +kernel) (by decide +kernel), _, _, rfl⟩
abbrev muX4_stands : zk_I := (yX4_stands, cX4_stands, 4, (some .int), RX4)
theorem miX4_stands : zk_MI muX4_stands 2 := ⟨zk_in 405 (by decide +kernel) (by decide +kernel), in_X4, by decide +kernel, by decide⟩
theorem mwX4_stands : zk_MV muX4_stands 2 4 := ⟨miX4_stands, zk_in 403 (by decide +kernel) (by decide +kernel), zk_in 404 (by decide +kernel) (by decide +kernel), _, _, rfl⟩
abbrev muX4_turn : zk_I := (yX4_turn, cX4_turn, 6, (some .int), RX4)
theorem miX4_turn : zk_MI muX4_turn 3 := ⟨zk_in 410 (by decide +kernel) (by decide +kernel), in_X4, by decide +kernel, by decide⟩
theorem mwX4_turn : zk_MV muX4_turn 3 4 := ⟨miX4_turn, zk_in 408 (by decide +kernel) (by decide +kernel), zk_in 409 (by decide +kernel) (by decide +kernel), _, _, rfl⟩
abbrev muX4_days : zk_I := (yX4_days, cX4_days, 2, (some .int), RX4)
theorem miX4_days : zk_MI muX4_days 1 := ⟨zk_in 415 (by decide +kernel) (by decide +kernel), in_X4, by decide +kernel, by decide⟩
theorem mwX4_days : zk_MV muX4_days 1 4 := ⟨miX4_days, zk_in 413 (by decide +kernel) (by decide +kernel), zk_in 414 (by decide +kernel) (by decide +kernel), _, _, rfl⟩
abbrev muX0_arrivedBits : zk_I := (yX0_arrivedBits, cX0_arrivedBits, 3, (some .int), RX0)
theorem miX0_arrivedBits : zk_MI muX0_arrivedBits 0 := ⟨zk_in 420 (by decide +kernel) (by decide +kernel), in_X0, by decide +kernel, by decide⟩
theorem mwX0_arrivedBits : zk_MV muX0_arrivedBits 0 0 := ⟨miX0_arrivedBits, zk_in 418 (by decide +kernel) (by decide +kernel), zk_in 419 (by decide +kernel) (by decide +kernel), _, _, rfl⟩
abbrev muX1_isWhereHeSays : zk_I := (yX1_isWhereHeSays, cX1_isWhereHeSays, 1, (some .boolean), RX1)
theorem miX1_isWhereHeSays : zk_MI muX1_isWhereHeSays 0 := ⟨zk_in 424 (by decide +kernel) (by decide +kernel), in_X1, by decide +kernel, by decide⟩
theorem mwX1_isWhereHeSays : zk_MV muX1_isWhereHeSays 0 1 := ⟨miX1_isWhereHeSays, zk_in 422 (by decide +kernel) (by decide +kernel), zk_in 423 (by decide +kernel) (by decide +kernel), _, _, rfl⟩
abbrev muJ6_bitCount_0f7a4 : zk_I := (yJ6_bitCount_0f7a4, cJ6_bitCount_0f7a4, 1, (some .int), RJ6)
theorem miJ6_bitCount_0f7a4 : zk_MI muJ6_bitCount_0f7a4 1 := ⟨zk_in 427 (by decide +kernel) (by decide +kernel), in_J6, by decide +kernel, by decide⟩
theorem stJ6_bitCount_0f7a4 : Cond.static yJ6_bitCount_0f7a4 ∈ zk_tb := zk_in 426 (by decide +kernel) (by decide +kernel)
abbrev muX4_riderThen : zk_I := (yX4_riderThen, cX4_riderThen, 5, (some .int), RX4)
theorem miX4_riderThen : zk_MI muX4_riderThen 3 := ⟨zk_in 434 (by decide +kernel) (by decide +kernel), in_X4, by decide +kernel, by decide⟩
theorem mwX4_riderThen : zk_MV muX4_riderThen 3 4 := ⟨miX4_riderThen, zk_in 432 (by decide +kernel) (by decide +kernel), zk_in 433 (by decide +kernel) (by decide +kernel), _, _, rfl⟩
abbrev muX4_refusalOfNumber : zk_I := (yX4_refusalOfNumber, cX4_refusalOfNumber, 3, (some .int), RX4)
theorem miX4_refusalOfNumber : zk_MI muX4_refusalOfNumber 3 := ⟨zk_in 437 (by decide +kernel) (by decide +kernel), in_X4, by decide +kernel, by decide⟩
theorem stX4_refusalOfNumber : Cond.static yX4_refusalOfNumber ∈ zk_tb := zk_in 436 (by decide +kernel) (by decide +kernel)
abbrev muX4_thinkOf : zk_I := (yX4_thinkOf, cX4_thinkOf, 2, none, RX4)
theorem miX4_thinkOf : zk_MI muX4_thinkOf 1 := ⟨zk_in 441 (by decide +kernel) (by decide +kernel), in_X4, by decide +kernel, by decide⟩
theorem mwX4_thinkOf : zk_MV muX4_thinkOf 1 4 := ⟨miX4_thinkOf, zk_in 440 (by decide +kernel) (by decide +kernel), zk_in 8 (by decide +kernel) (by decide +kernel), _, _, rfl⟩
abbrev muX1_rideDays : zk_I := (yX1_rideDays, cX1_rideDays, 4, none, RX1)
theorem miX1_rideDays : zk_MI muX1_rideDays 2 := ⟨zk_in 446 (by decide +kernel) (by decide +kernel), in_X1, by decide +kernel, by decide⟩
theorem mwX1_rideDays : zk_MV muX1_rideDays 2 1 := ⟨miX1_rideDays, zk_in 444 (by decide +kernel) (by decide +kernel), zk_in 445 (by decide +kernel) (by decide +kernel), _, _, rfl⟩
abbrev muX4_comes : zk_I := (yX4_comes, cX4_comes, 3, (some .int), RX4)
theorem miX4_comes : zk_MI muX4_comes 2 := ⟨zk_in 451 (by decide +kernel) (by decide +kernel), in_X4, by decide +kernel, by decide⟩
theorem mwX4_comes : zk_MV muX4_comes 2 4 := ⟨miX4_comes, zk_in 449 (by decide +kernel) (by decide +kernel), zk_in 450 (by decide +kernel) (by decide +kernel), _, _, rfl⟩
abbrev muX4_comesNow : zk_I := (yX4_comesNow, cX4_comesNow, 3, (some .int), RX4)
theorem miX4_comesNow : zk_MI muX4_comesNow 2 := ⟨zk_in 455 (by decide +kernel) (by decide +kernel), in_X4, by decide +kernel, by decide⟩
theorem mwX4_comesNow : zk_MV muX4_comesNow 2 4 := ⟨miX4_comesNow, zk_in 454 (by decide +kernel) (by decide +kernel), zk_in 9 (by decide +kernel) (by decide +kernel), _, _, rfl⟩
abbrev muX1_daysUntilAt : zk_I := (yX1_daysUntilAt, cX1_daysUntilAt, 4, (some .int), RX1)
theorem miX1_daysUntilAt : zk_MI muX1_daysUntilAt 2 := ⟨zk_in 459 (by decide +kernel) (by decide +kernel), in_X1, by decide +kernel, by decide⟩
theorem mwX1_daysUntilAt : zk_MV muX1_daysUntilAt 2 1 := ⟨miX1_daysUntilAt, zk_in 457 (by decide +kernel) (by decide +kernel), zk_in 458 (by decide +kernel) (by decide +kernel), _, _, rfl⟩
abbrev muX4_dayOrNone : zk_I := (yX4_dayOrNone, cX4_dayOrNone, 1, (some .int), RX4)
theorem miX4_dayOrNone : zk_MI muX4_dayOrNone 1 := ⟨zk_in 462 (by decide +kernel) (by decide +kernel), in_X4, by decide +kernel, by decide⟩
theorem stX4_dayOrNone : Cond.static yX4_dayOrNone ∈ zk_tb := zk_in 461 (by decide +kernel) (by decide +kernel)
abbrev muX4_first : zk_I := (yX4_first, cX4_first, 6, (some .int), RX4)
theorem miX4_first : zk_MI muX4_first 1 := ⟨zk_in 466 (by decide +kernel) (by decide +kernel), in_X4, by decide +kernel, by decide⟩
theorem mwX4_first : zk_MV muX4_first 1 4 := ⟨miX4_first, zk_in 464 (by decide +kernel) (by decide +kernel), zk_in 465 (by decide +kernel) (by decide +kernel), _, _, rfl⟩
abbrev muX4_rests : zk_I := (yX4_rests, cX4_rests, 5, (some .int), RX4)
theorem miX4_rests : zk_MI muX4_rests 1 := ⟨zk_in 470 (by decide +kernel) (by decide +kernel), in_X4, by decide +kernel, by decide⟩
theorem mwX4_rests : zk_MV muX4_rests 1 4 := ⟨miX4_rests, zk_in 468 (by decide +kernel) (by decide +kernel), zk_in 469 (by decide +kernel) (by decide +kernel), _, _, rfl⟩
abbrev muX4_meet : zk_I := (yX4_meet, cX4_meet, 5, (some .int), RX4)
theorem miX4_meet : zk_MI muX4_meet 3 := ⟨zk_in 475 (by decide +kernel) (by decide +kernel), in_X4, by decide +kernel, by decide⟩
theorem mwX4_meet : zk_MV muX4_meet 3 4 := ⟨miX4_meet, zk_in 473 (by decide +kernel) (by decide +kernel), zk_in 474 (by decide +kernel) (by decide +kernel), _, _, rfl⟩
abbrev muX4_arrived : zk_I := (yX4_arrived, cX4_arrived, 4, (some .int), RX4)
theorem miX4_arrived : zk_MI muX4_arrived 0 := ⟨zk_in 479 (by decide +kernel) (by decide +kernel), in_X4, by decide +kernel, by decide⟩
theorem mwX4_arrived : zk_MV muX4_arrived 0 4 := ⟨miX4_arrived, zk_in 477 (by decide +kernel) (by decide +kernel), zk_in 478 (by decide +kernel) (by decide +kernel), _, _, rfl⟩
abbrev muX4_mindDaysWhereHeSays : zk_I := (yX4_mindDaysWhereHeSays, cX4_mindDaysWhereHeSays, 4, (some .long), RX4)
theorem miX4_mindDaysWhereHeSays : zk_MI muX4_mindDaysWhereHeSays 0 := ⟨zk_in 484 (by decide +kernel) (by decide +kernel), in_X4, by decide +kernel, by decide⟩
theorem mwX4_mindDaysWhereHeSays : zk_MV muX4_mindDaysWhereHeSays 0 4 := ⟨miX4_mindDaysWhereHeSays, zk_in 483 (by decide +kernel) (by decide +kernel), zk_in 10 (by decide +kernel) (by decide +kernel), _, _, rfl⟩
abbrev muX4_shoe : zk_I := (yX4_shoe, cX4_shoe, 8, (some .int), RX4)
theorem miX4_shoe : zk_MI muX4_shoe 3 := ⟨zk_in 489 (by decide +kernel) (by decide +kernel), in_X4, by decide +kernel, by decide⟩
theorem mwX4_shoe : zk_MV muX4_shoe 3 4 := ⟨miX4_shoe, zk_in 487 (by decide +kernel) (by decide +kernel), zk_in 488 (by decide +kernel) (by decide +kernel), _, _, rfl⟩
abbrev muX4_wish : zk_I := (yX4_wish, cX4_wish, 7, (some .int), RX4)
theorem miX4_wish : zk_MI muX4_wish 2 := ⟨zk_in 493 (by decide +kernel) (by decide +kernel), in_X4, by decide +kernel, by decide⟩
theorem mwX4_wish : zk_MV muX4_wish 2 4 := ⟨miX4_wish, zk_in 491 (by decide +kernel) (by decide +kernel), zk_in 492 (by decide +kernel) (by decide +kernel), _, _, rfl⟩
abbrev muX4_road : zk_I := (yX4_road, cX4_road, 8, (some .int), RX4)
theorem miX4_road : zk_MI muX4_road 2 := ⟨zk_in 497 (by decide +kernel) (by decide +kernel), in_X4, by decide +kernel, by decide⟩
theorem mwX4_road : zk_MV muX4_road 2 4 := ⟨miX4_road, zk_in 495 (by decide +kernel) (by decide +kernel), zk_in 496 (by decide +kernel) (by decide +kernel), _, _, rfl⟩
abbrev muX4_comesWithChange : zk_I := (yX4_comesWithChange, cX4_comesWithChange, 5, (some .int), RX4)
theorem miX4_comesWithChange : zk_MI muX4_comesWithChange 4 := ⟨zk_in 501 (by decide +kernel) (by decide +kernel), in_X4, by decide +kernel, by decide⟩
theorem mwX4_comesWithChange : zk_MV muX4_comesWithChange 4 4 := ⟨miX4_comesWithChange, zk_in 500 (by decide +kernel) (by decide +kernel), zk_in 11 (by decide +kernel) (by decide +kernel), _, _, rfl⟩
abbrev muX4_cut : zk_I := (yX4_cut, cX4_cut, 5, (some .int), RX4)
theorem miX4_cut : zk_MI muX4_cut 2 := ⟨zk_in 507 (by decide +kernel) (by decide +kernel), in_X4, by decide +kernel, by decide⟩
theorem mwX4_cut : zk_MV muX4_cut 2 4 := ⟨miX4_cut, zk_in 505 (by decide +kernel) (by decide +kernel), zk_in 506 (by decide +kernel) (by decide +kernel), _, _, rfl⟩
abbrev muX4_inn : zk_I := (yX4_inn, cX4_inn, 8, (some .int), RX4)
theorem miX4_inn : zk_MI muX4_inn 2 := ⟨zk_in 511 (by decide +kernel) (by decide +kernel), in_X4, by decide +kernel, by decide⟩
theorem mwX4_inn : zk_MV muX4_inn 2 4 := ⟨miX4_inn, zk_in 509 (by decide +kernel) (by decide +kernel), zk_in 510 (by decide +kernel) (by decide +kernel), _, _, rfl⟩
abbrev muX4_noteGuests : zk_I := (yX4_noteGuests, cX4_noteGuests, 4, none, RX4)
theorem miX4_noteGuests : zk_MI muX4_noteGuests 1 := ⟨zk_in 515 (by decide +kernel) (by decide +kernel), in_X4, by decide +kernel, by decide⟩
theorem mwX4_noteGuests : zk_MV muX4_noteGuests 1 4 := ⟨miX4_noteGuests, zk_in 514 (by decide +kernel) (by decide +kernel), zk_in 12 (by decide +kernel) (by decide +kernel), _, _, rfl⟩
abbrev muX4_busiest : zk_I := (yX4_busiest, cX4_busiest, 3, (some .int), RX4)
theorem miX4_busiest : zk_MI muX4_busiest 0 := ⟨zk_in 519 (by decide +kernel) (by decide +kernel), in_X4, by decide +kernel, by decide⟩
theorem mwX4_busiest : zk_MV muX4_busiest 0 4 := ⟨miX4_busiest, zk_in 517 (by decide +kernel) (by decide +kernel), zk_in 518 (by decide +kernel) (by decide +kernel), _, _, rfl⟩
abbrev muX4_near : zk_I := (yX4_near, cX4_near, 2, (some .int), RX4)
theorem miX4_near : zk_MI muX4_near 1 := ⟨zk_in 523 (by decide +kernel) (by decide +kernel), in_X4, by decide +kernel, by decide⟩
theorem mwX4_near : zk_MV muX4_near 1 4 := ⟨miX4_near, zk_in 521 (by decide +kernel) (by decide +kernel), zk_in 522 (by decide +kernel) (by decide +kernel), _, _, rfl⟩
abbrev muX4_apart : zk_I := (yX4_apart, cX4_apart, 2, (some .int), RX4)
theorem miX4_apart : zk_MI muX4_apart 1 := ⟨zk_in 527 (by decide +kernel) (by decide +kernel), in_X4, by decide +kernel, by decide⟩
theorem mwX4_apart : zk_MV muX4_apart 1 4 := ⟨miX4_apart, zk_in 525 (by decide +kernel) (by decide +kernel), zk_in 526 (by decide +kernel) (by decide +kernel), _, _, rfl⟩
abbrev muX2_mostSteps : zk_I := (yX2_mostSteps, cX2_mostSteps, 3, (some .int), RX2)
theorem miX2_mostSteps : zk_MI muX2_mostSteps 0 := ⟨zk_in 531 (by decide +kernel) (by decide +kernel), in_X2, by decide +kernel, by decide⟩
theorem mwX2_mostSteps : zk_MV muX2_mostSteps 0 2 := ⟨miX2_mostSteps, zk_in 529 (by decide +kernel) (by decide +kernel), zk_in 530 (by decide +kernel) (by decide +kernel), _, _, rfl⟩
theorem co_mmax : Cond.code Lib.Math.max.name Lib.Math.max.code 2 (some .int) ∈ zk_tb := zk_in 534 (by decide +kernel) (by decide +kernel)
abbrev muX2_farBits : zk_I := (yX2_farBits, cX2_farBits, 3, (some .int), RX2)
theorem miX2_farBits : zk_MI muX2_farBits 0 := ⟨zk_in 538 (by decide +kernel) (by decide +kernel), in_X2, by decide +kernel, by decide⟩
theorem mwX2_farBits : zk_MV muX2_farBits 0 2 := ⟨miX2_farBits, zk_in 536 (by decide +kernel) (by decide +kernel), zk_in 537 (by decide +kernel) (by decide +kernel), _, _, rfl⟩
abbrev muX0_honestBits : zk_I := (yX0_honestBits, cX0_honestBits, 3, (some .int), RX0)
theorem miX0_honestBits : zk_MI muX0_honestBits 0 := ⟨zk_in 543 (by decide +kernel) (by decide +kernel), in_X0, by decide +kernel, by decide⟩
theorem mwX0_honestBits : zk_MV muX0_honestBits 0 0 := ⟨miX0_honestBits, zk_in 541 (by decide +kernel) (by decide +kernel), zk_in 542 (by decide +kernel) (by decide +kernel), _, _, rfl⟩
abbrev muX0_lostBits : zk_I := (yX0_lostBits, cX0_lostBits, 3, (some .int), RX0)
theorem miX0_lostBits : zk_MI muX0_lostBits 0 := ⟨zk_in 547 (by decide +kernel) (by decide +kernel), in_X0, by decide +kernel, by decide⟩
theorem mwX0_lostBits : zk_MV muX0_lostBits 0 0 := ⟨miX0_lostBits, zk_in 545 (by decide +kernel) (by decide +kernel), zk_in 546 (by decide +kernel) (by decide +kernel), _, _, rfl⟩
abbrev muX1_stepsToGo : zk_I := (yX1_stepsToGo, cX1_stepsToGo, 2, (some .int), RX1)
theorem miX1_stepsToGo : zk_MI muX1_stepsToGo 1 := ⟨zk_in 551 (by decide +kernel) (by decide +kernel), in_X1, by decide +kernel, by decide⟩
theorem mwX1_stepsToGo : zk_MV muX1_stepsToGo 1 1 := ⟨miX1_stepsToGo, zk_in 549 (by decide +kernel) (by decide +kernel), zk_in 550 (by decide +kernel) (by decide +kernel), _, _, rfl⟩
abbrev muX4_tired : zk_I := (yX4_tired, cX4_tired, 4, (some .int), RX4)
theorem miX4_tired : zk_MI muX4_tired 0 := ⟨zk_in 555 (by decide +kernel) (by decide +kernel), in_X4, by decide +kernel, by decide⟩
theorem mwX4_tired : zk_MV muX4_tired 0 4 := ⟨miX4_tired, zk_in 553 (by decide +kernel) (by decide +kernel), zk_in 554 (by decide +kernel) (by decide +kernel), _, _, rfl⟩
abbrev muX4_truly : zk_I := (yX4_truly, cX4_truly, 3, (some .int), RX4)
theorem miX4_truly : zk_MI muX4_truly 1 := ⟨zk_in 559 (by decide +kernel) (by decide +kernel), in_X4, by decide +kernel, by decide⟩
theorem mwX4_truly : zk_MV muX4_truly 1 4 := ⟨miX4_truly, zk_in 557 (by decide +kernel) (by decide +kernel), zk_in 558 (by decide +kernel) (by decide +kernel), _, _, rfl⟩
abbrev muX4_total : zk_I := (yX4_total, cX4_total, 3, (some .int), RX4)
theorem miX4_total : zk_MI muX4_total 1 := ⟨zk_in 564 (by decide +kernel) (by decide +kernel), in_X4, by decide +kernel, by decide⟩
theorem mwX4_total : zk_MV muX4_total 1 4 := ⟨miX4_total, zk_in 562 (by decide +kernel) (by decide +kernel), zk_in 563 (by decide +kernel) (by decide +kernel), _, _, rfl⟩
abbrev muX4_totalWithBare : zk_I := (yX4_totalWithBare, cX4_totalWithBare, 5, (some .int), RX4)
theorem miX4_totalWithBare : zk_MI muX4_totalWithBare 2 := ⟨zk_in 568 (by decide +kernel) (by decide +kernel), in_X4, by decide +kernel, by decide⟩
theorem mwX4_totalWithBare : zk_MV muX4_totalWithBare 2 4 := ⟨miX4_totalWithBare, zk_in 567 (by decide +kernel) (by decide +kernel), zk_in 13 (by decide +kernel) (by decide +kernel), _, _, rfl⟩
abbrev muX4_bare : zk_I := (yX4_bare, cX4_bare, 7, (some .int), RX4)
theorem miX4_bare : zk_MI muX4_bare 1 := ⟨zk_in 573 (by decide +kernel) (by decide +kernel), in_X4, by decide +kernel, by decide⟩
theorem mwX4_bare : zk_MV muX4_bare 1 4 := ⟨miX4_bare, zk_in 571 (by decide +kernel) (by decide +kernel), zk_in 572 (by decide +kernel) (by decide +kernel), _, _, rfl⟩
abbrev muX4_two : zk_I := (yX4_two, cX4_two, 9, (some .int), RX4)
theorem miX4_two : zk_MI muX4_two 3 := ⟨zk_in 577 (by decide +kernel) (by decide +kernel), in_X4, by decide +kernel, by decide⟩
theorem mwX4_two : zk_MV muX4_two 3 4 := ⟨miX4_two, zk_in 575 (by decide +kernel) (by decide +kernel), zk_in 576 (by decide +kernel) (by decide +kernel), _, _, rfl⟩
abbrev muX4_costOfChoice : zk_I := (yX4_costOfChoice, cX4_costOfChoice, 4, (some .int), RX4)
theorem miX4_costOfChoice : zk_MI muX4_costOfChoice 3 := ⟨zk_in 581 (by decide +kernel) (by decide +kernel), in_X4, by decide +kernel, by decide⟩
theorem mwX4_costOfChoice : zk_MV muX4_costOfChoice 3 4 := ⟨miX4_costOfChoice, zk_in 580 (by decide +kernel) (by decide +kernel), zk_in 14 (by decide +kernel) (by decide +kernel), _, _, rfl⟩
abbrev muX4_mud : zk_I := (yX4_mud, cX4_mud, 9, (some .long), RX4)
theorem miX4_mud : zk_MI muX4_mud 5 := ⟨zk_in 586 (by decide +kernel) (by decide +kernel), in_X4, by decide +kernel, by decide⟩
theorem mwX4_mud : zk_MV muX4_mud 5 4 := ⟨miX4_mud, zk_in 584 (by decide +kernel) (by decide +kernel), zk_in 585 (by decide +kernel) (by decide +kernel), _, _, rfl⟩
abbrev muX4_refuseLong : zk_I := (yX4_refuseLong, cX4_refuseLong, 2, (some .long), RX4)
theorem miX4_refuseLong : zk_MI muX4_refuseLong 1 := ⟨zk_in 590 (by decide +kernel) (by decide +kernel), in_X4, by decide +kernel, by decide⟩
theorem mwX4_refuseLong : zk_MV muX4_refuseLong 1 4 := ⟨miX4_refuseLong, zk_in 589 (by decide +kernel) (by decide +kernel), zk_in 15 (by decide +kernel) (by decide +kernel), _, _, rfl⟩
abbrev muX4_startChances : zk_I := (yX4_startChances, cX4_startChances, 3, none, RX4)
theorem miX4_startChances : zk_MI muX4_startChances 1 := ⟨zk_in 595 (by decide +kernel) (by decide +kernel), in_X4, by decide +kernel, by decide⟩
theorem mwX4_startChances : zk_MV muX4_startChances 1 4 := ⟨miX4_startChances, zk_in 594 (by decide +kernel) (by decide +kernel), zk_in 16 (by decide +kernel) (by decide +kernel), _, _, rfl⟩
abbrev muX4_spreadChances : zk_I := (yX4_spreadChances, cX4_spreadChances, 4, none, RX4)
theorem miX4_spreadChances : zk_MI muX4_spreadChances 1 := ⟨zk_in 599 (by decide +kernel) (by decide +kernel), in_X4, by decide +kernel, by decide⟩
theorem mwX4_spreadChances : zk_MV muX4_spreadChances 1 4 := ⟨miX4_spreadChances, zk_in 598 (by decide +kernel) (by decide +kernel), zk_in 17 (by decide +kernel) (by decide +kernel), _, _, rfl⟩
abbrev muX4_partOfFraction : zk_I := (yX4_partOfFraction, cX4_partOfFraction, 7, (some .long), RX4)
theorem miX4_partOfFraction : zk_MI muX4_partOfFraction 3 := ⟨zk_in 603 (by decide +kernel) (by decide +kernel), in_X4, by decide +kernel, by decide⟩
theorem stX4_partOfFraction : Cond.static yX4_partOfFraction ∈ zk_tb := zk_in 602 (by decide +kernel) (by decide +kernel)
abbrev muX4_greatestDivisor : zk_I := (yX4_greatestDivisor, cX4_greatestDivisor, 11, (some .long), RX4)
theorem miX4_greatestDivisor : zk_MI muX4_greatestDivisor 2 := ⟨zk_in 606 (by decide +kernel) (by decide +kernel), in_X4, by decide +kernel, by decide⟩
theorem stX4_greatestDivisor : Cond.static yX4_greatestDivisor ∈ zk_tb := zk_in 605 (by decide +kernel) (by decide +kernel)
abbrev muX4_mean : zk_I := (yX4_mean, cX4_mean, 2, (some .long), RX4)
theorem miX4_mean : zk_MI muX4_mean 1 := ⟨zk_in 610 (by decide +kernel) (by decide +kernel), in_X4, by decide +kernel, by decide⟩
theorem mwX4_mean : zk_MV muX4_mean 1 4 := ⟨miX4_mean, zk_in 608 (by decide +kernel) (by decide +kernel), zk_in 609 (by decide +kernel) (by decide +kernel), _, _, rfl⟩
abbrev muX0_allShoes : zk_I := (yX0_allShoes, cX0_allShoes, 3, (some .int), RX0)
theorem miX0_allShoes : zk_MI muX0_allShoes 0 := ⟨zk_in 614 (by decide +kernel) (by decide +kernel), in_X0, by decide +kernel, by decide⟩
theorem mwX0_allShoes : zk_MV muX0_allShoes 0 0 := ⟨miX0_allShoes, zk_in 612 (by decide +kernel) (by decide +kernel), zk_in 613 (by decide +kernel) (by decide +kernel), _, _, rfl⟩
abbrev muX4_whatWanted : zk_I := (yX4_whatWanted, cX4_whatWanted, 6, (some .int), RX4)
theorem miX4_whatWanted : zk_MI muX4_whatWanted 2 := ⟨zk_in 618 (by decide +kernel) (by decide +kernel), in_X4, by decide +kernel, by decide⟩
theorem mwX4_whatWanted : zk_MV muX4_whatWanted 2 4 := ⟨miX4_whatWanted, zk_in 616 (by decide +kernel) (by decide +kernel), zk_in 617 (by decide +kernel) (by decide +kernel), _, _, rfl⟩
abbrev muX4_mindFollowsRow : zk_I := (yX4_mindFollowsRow, cX4_mindFollowsRow, 2, (some .boolean), RX4)
theorem miX4_mindFollowsRow : zk_MI muX4_mindFollowsRow 0 := ⟨zk_in 622 (by decide +kernel) (by decide +kernel), in_X4, by decide +kernel, by decide⟩
theorem mwX4_mindFollowsRow : zk_MV muX4_mindFollowsRow 0 4 := ⟨miX4_mindFollowsRow, zk_in 621 (by decide +kernel) (by decide +kernel), zk_in 18 (by decide +kernel) (by decide +kernel), _, _, rfl⟩
abbrev muX4_row : zk_I := (yX4_row, cX4_row, 2, (some .int), RX4)
theorem miX4_row : zk_MI muX4_row 1 := ⟨zk_in 626 (by decide +kernel) (by decide +kernel), in_X4, by decide +kernel, by decide⟩
theorem mwX4_row : zk_MV muX4_row 1 4 := ⟨miX4_row, zk_in 624 (by decide +kernel) (by decide +kernel), zk_in 625 (by decide +kernel) (by decide +kernel), _, _, rfl⟩
abbrev muX4_judge : zk_I := (yX4_judge, cX4_judge, 2, (some .int), RX4)
theorem miX4_judge : zk_MI muX4_judge 0 := ⟨zk_in 630 (by decide +kernel) (by decide +kernel), in_X4, by decide +kernel, by decide⟩
theorem mwX4_judge : zk_MV muX4_judge 0 4 := ⟨miX4_judge, zk_in 628 (by decide +kernel) (by decide +kernel), zk_in 629 (by decide +kernel) (by decide +kernel), _, _, rfl⟩
abbrev muX4_firstWrongInRow : zk_I := (yX4_firstWrongInRow, cX4_firstWrongInRow, 2, (some .int), RX4)
theorem miX4_firstWrongInRow : zk_MI muX4_firstWrongInRow 0 := ⟨zk_in 634 (by decide +kernel) (by decide +kernel), in_X4, by decide +kernel, by decide⟩
theorem mwX4_firstWrongInRow : zk_MV muX4_firstWrongInRow 0 4 := ⟨miX4_firstWrongInRow, zk_in 633 (by decide +kernel) (by decide +kernel), zk_in 19 (by decide +kernel) (by decide +kernel), _, _, rfl⟩
abbrev muX4_clear : zk_I := (yX4_clear, cX4_clear, 2, (some .int), RX4)
theorem miX4_clear : zk_MI muX4_clear 0 := ⟨zk_in 638 (by decide +kernel) (by decide +kernel), in_X4, by decide +kernel, by decide⟩
theorem mwX4_clear : zk_MV muX4_clear 0 4 := ⟨miX4_clear, zk_in 636 (by decide +kernel) (by decide +kernel), zk_in 637 (by decide +kernel) (by decide +kernel), _, _, rfl⟩
abbrev muX4_lots : zk_I := (yX4_lots, cX4_lots, 9, (some .int), RX4)
theorem miX4_lots : zk_MI muX4_lots 3 := ⟨zk_in 642 (by decide +kernel) (by decide +kernel), in_X4, by decide +kernel, by decide⟩
theorem mwX4_lots : zk_MV muX4_lots 3 4 := ⟨miX4_lots, zk_in 640 (by decide +kernel) (by decide +kernel), zk_in 641 (by decide +kernel) (by decide +kernel), _, _, rfl⟩
abbrev muX4_nextSeed : zk_I := (yX4_nextSeed, cX4_nextSeed, 1, (some .int), RX4)
theorem miX4_nextSeed : zk_MI muX4_nextSeed 1 := ⟨zk_in 645 (by decide +kernel) (by decide +kernel), in_X4, by decide +kernel, by decide⟩
theorem stX4_nextSeed : Cond.static yX4_nextSeed ∈ zk_tb := zk_in 644 (by decide +kernel) (by decide +kernel)
abbrev muX4_drawn : zk_I := (yX4_drawn, cX4_drawn, 2, (some .int), RX4)
theorem miX4_drawn : zk_MI muX4_drawn 2 := ⟨zk_in 650 (by decide +kernel) (by decide +kernel), in_X4, by decide +kernel, by decide⟩
theorem stX4_drawn : Cond.static yX4_drawn ∈ zk_tb := zk_in 649 (by decide +kernel) (by decide +kernel)
abbrev muX4_image : zk_I := (yX4_image, cX4_image, 1, (some .int), RX4)
theorem miX4_image : zk_MI muX4_image 0 := ⟨zk_in 655 (by decide +kernel) (by decide +kernel), in_X4, by decide +kernel, by decide⟩
theorem mwX4_image : zk_MV muX4_image 0 4 := ⟨miX4_image, zk_in 653 (by decide +kernel) (by decide +kernel), zk_in 654 (by decide +kernel) (by decide +kernel), _, _, rfl⟩
abbrev muX4_on : zk_I := (yX4_on, cX4_on, 1, (some .int), RX4)
theorem miX4_on : zk_MI muX4_on 0 := ⟨zk_in 659 (by decide +kernel) (by decide +kernel), in_X4, by decide +kernel, by decide⟩
theorem mwX4_on : zk_MV muX4_on 0 4 := ⟨miX4_on, zk_in 657 (by decide +kernel) (by decide +kernel), zk_in 658 (by decide +kernel) (by decide +kernel), _, _, rfl⟩
abbrev muX4_count : zk_I := (yX4_count, cX4_count, 2, (some .int), RX4)
theorem miX4_count : zk_MI muX4_count 1 := ⟨zk_in 663 (by decide +kernel) (by decide +kernel), in_X4, by decide +kernel, by decide⟩
theorem mwX4_count : zk_MV muX4_count 1 4 := ⟨miX4_count, zk_in 661 (by decide +kernel) (by decide +kernel), zk_in 662 (by decide +kernel) (by decide +kernel), _, _, rfl⟩
abbrev muX2_roadCount : zk_I := (yX2_roadCount, cX2_roadCount, 3, (some .int), RX2)
theorem miX2_roadCount : zk_MI muX2_roadCount 0 := ⟨zk_in 667 (by decide +kernel) (by decide +kernel), in_X2, by decide +kernel, by decide⟩
theorem mwX2_roadCount : zk_MV muX2_roadCount 0 2 := ⟨miX2_roadCount, zk_in 665 (by decide +kernel) (by decide +kernel), zk_in 666 (by decide +kernel) (by decide +kernel), _, _, rfl⟩
abbrev muX0_allWorn : zk_I := (yX0_allWorn, cX0_allWorn, 3, (some .int), RX0)
theorem miX0_allWorn : zk_MI muX0_allWorn 0 := ⟨zk_in 672 (by decide +kernel) (by decide +kernel), in_X0, by decide +kernel, by decide⟩
theorem mwX0_allWorn : zk_MV muX0_allWorn 0 0 := ⟨miX0_allWorn, zk_in 670 (by decide +kernel) (by decide +kernel), zk_in 671 (by decide +kernel) (by decide +kernel), _, _, rfl⟩
abbrev muX4_refusalCount : zk_I := (yX4_refusalCount, cX4_refusalCount, 2, (some .int), RX4)
theorem miX4_refusalCount : zk_MI muX4_refusalCount 1 := ⟨zk_in 676 (by decide +kernel) (by decide +kernel), in_X4, by decide +kernel, by decide⟩
theorem mwX4_refusalCount : zk_MV muX4_refusalCount 1 4 := ⟨miX4_refusalCount, zk_in 675 (by decide +kernel) (by decide +kernel), zk_in 20 (by decide +kernel) (by decide +kernel), _, _, rfl⟩
abbrev muX5_init : zk_I := (yX5_init, cX5_init, 1, none, RX5)
theorem miX5_init : zk_MI muX5_init 0 := ⟨zk_in 681 (by decide +kernel) (by decide +kernel), in_X5, by decide +kernel, by decide⟩
abbrev muX5_letter : zk_I := (yX5_letter, cX5_letter, 2, (some .int), RX5)
theorem miX5_letter : zk_MI muX5_letter 1 := ⟨zk_in 732 (by decide +kernel) (by decide +kernel), in_X5, by decide +kernel, by decide⟩
theorem mwX5_letter : zk_MV muX5_letter 1 5 := ⟨miX5_letter, zk_in 730 (by decide +kernel) (by decide +kernel), zk_in 731 (by decide +kernel) (by decide +kernel), _, _, rfl⟩
abbrev muX5_no : zk_I := (yX5_no, cX5_no, 2, (some .int), RX5)
theorem miX5_no : zk_MI muX5_no 1 := ⟨zk_in 736 (by decide +kernel) (by decide +kernel), in_X5, by decide +kernel, by decide⟩
theorem mwX5_no : zk_MV muX5_no 1 5 := ⟨miX5_no, zk_in 735 (by decide +kernel) (by decide +kernel), zk_in 21 (by decide +kernel) (by decide +kernel), _, _, rfl⟩
abbrev muX5_county : zk_I := (yX5_county, cX5_county, 6, (some .int), RX5)
theorem miX5_county : zk_MI muX5_county 0 := ⟨zk_in 740 (by decide +kernel) (by decide +kernel), in_X5, by decide +kernel, by decide⟩
theorem mwX5_county : zk_MV muX5_county 0 5 := ⟨miX5_county, zk_in 738 (by decide +kernel) (by decide +kernel), zk_in 739 (by decide +kernel) (by decide +kernel), _, _, rfl⟩
abbrev muX5_readsStatement : zk_I := (yX5_readsStatement, cX5_readsStatement, 3, (some .boolean), RX5)
theorem miX5_readsStatement : zk_MI muX5_readsStatement 0 := ⟨zk_in 744 (by decide +kernel) (by decide +kernel), in_X5, by decide +kernel, by decide⟩
theorem mwX5_readsStatement : zk_MV muX5_readsStatement 0 5 := ⟨miX5_readsStatement, zk_in 743 (by decide +kernel) (by decide +kernel), zk_in 22 (by decide +kernel) (by decide +kernel), _, _, rfl⟩
abbrev muX5_here : zk_I := (yX5_here, cX5_here, 1, (some .int), RX5)
theorem miX5_here : zk_MI muX5_here 0 := ⟨zk_in 748 (by decide +kernel) (by decide +kernel), in_X5, by decide +kernel, by decide⟩
theorem mwX5_here : zk_MV muX5_here 0 5 := ⟨miX5_here, zk_in 747 (by decide +kernel) (by decide +kernel), zk_in 23 (by decide +kernel) (by decide +kernel), _, _, rfl⟩
abbrev muX5_readsNumber : zk_I := (yX5_readsNumber, cX5_readsNumber, 4, (some .boolean), RX5)
theorem miX5_readsNumber : zk_MI muX5_readsNumber 2 := ⟨zk_in 752 (by decide +kernel) (by decide +kernel), in_X5, by decide +kernel, by decide⟩
theorem mwX5_readsNumber : zk_MV muX5_readsNumber 2 5 := ⟨miX5_readsNumber, zk_in 751 (by decide +kernel) (by decide +kernel), zk_in 24 (by decide +kernel) (by decide +kernel), _, _, rfl⟩
abbrev muX5_isIn : zk_I := (yX5_isIn, cX5_isIn, 3, (some .boolean), RX5)
theorem miX5_isIn : zk_MI muX5_isIn 3 := ⟨zk_in 755 (by decide +kernel) (by decide +kernel), in_X5, by decide +kernel, by decide⟩
theorem stX5_isIn : Cond.static yX5_isIn ∈ zk_tb := zk_in 754 (by decide +kernel) (by decide +kernel)
abbrev muX5_readsKind : zk_I := (yX5_readsKind, cX5_readsKind, 1, (some .boolean), RX5)
theorem miX5_readsKind : zk_MI muX5_readsKind 0 := ⟨zk_in 759 (by decide +kernel) (by decide +kernel), in_X5, by decide +kernel, by decide⟩
theorem mwX5_readsKind : zk_MV muX5_readsKind 0 5 := ⟨miX5_readsKind, zk_in 758 (by decide +kernel) (by decide +kernel), zk_in 25 (by decide +kernel) (by decide +kernel), _, _, rfl⟩
abbrev muX5_kindBy : zk_I := (yX5_kindBy, cX5_kindBy, 1, (some .int), RX5)
theorem miX5_kindBy : zk_MI muX5_kindBy 1 := ⟨zk_in 762 (by decide +kernel) (by decide +kernel), in_X5, by decide +kernel, by decide⟩
theorem stX5_kindBy : Cond.static yX5_kindBy ∈ zk_tb := zk_in 761 (by decide +kernel) (by decide +kernel)
abbrev muX5_copies : zk_I := (yX5_copies, cX5_copies, 3, none, RX5)
theorem miX5_copies : zk_MI muX5_copies 2 := ⟨zk_in 765 (by decide +kernel) (by decide +kernel), in_X5, by decide +kernel, by decide⟩
theorem stX5_copies : Cond.static yX5_copies ∈ zk_tb := zk_in 764 (by decide +kernel) (by decide +kernel)
abbrev muX5_isDone : zk_I := (yX5_isDone, cX5_isDone, 4, (some .boolean), RX5)
theorem miX5_isDone : zk_MI muX5_isDone 1 := ⟨zk_in 769 (by decide +kernel) (by decide +kernel), in_X5, by decide +kernel, by decide⟩
theorem mwX5_isDone : zk_MV muX5_isDone 1 5 := ⟨miX5_isDone, zk_in 768 (by decide +kernel) (by decide +kernel), zk_in 26 (by decide +kernel) (by decide +kernel), _, _, rfl⟩
abbrev muX5_isPlace : zk_I := (yX5_isPlace, cX5_isPlace, 1, (some .boolean), RX5)
theorem miX5_isPlace : zk_MI muX5_isPlace 1 := ⟨zk_in 772 (by decide +kernel) (by decide +kernel), in_X5, by decide +kernel, by decide⟩
theorem stX5_isPlace : Cond.static yX5_isPlace ∈ zk_tb := zk_in 771 (by decide +kernel) (by decide +kernel)
abbrev muX5_turnsRoad : zk_I := (yX5_turnsRoad, cX5_turnsRoad, 3, none, RX5)
theorem miX5_turnsRoad : zk_MI muX5_turnsRoad 3 := ⟨zk_in 775 (by decide +kernel) (by decide +kernel), in_X5, by decide +kernel, by decide⟩
theorem stX5_turnsRoad : Cond.static yX5_turnsRoad ∈ zk_tb := zk_in 774 (by decide +kernel) (by decide +kernel)
abbrev muX5_addsRider : zk_I := (yX5_addsRider, cX5_addsRider, 3, (some .boolean), RX5)
theorem miX5_addsRider : zk_MI muX5_addsRider 0 := ⟨zk_in 779 (by decide +kernel) (by decide +kernel), in_X5, by decide +kernel, by decide⟩
theorem mwX5_addsRider : zk_MV muX5_addsRider 0 5 := ⟨miX5_addsRider, zk_in 778 (by decide +kernel) (by decide +kernel), zk_in 27 (by decide +kernel) (by decide +kernel), _, _, rfl⟩
abbrev muX5_of : zk_I := (yX5_of, cX5_of, 2, (some .int), RX5)
theorem miX5_of : zk_MI muX5_of 2 := ⟨zk_in 782 (by decide +kernel) (by decide +kernel), in_X5, by decide +kernel, by decide⟩
theorem stX5_of : Cond.static yX5_of ∈ zk_tb := zk_in 781 (by decide +kernel) (by decide +kernel)
abbrev muX5_isShod : zk_I := (yX5_isShod, cX5_isShod, 2, none, RX5)
theorem miX5_isShod : zk_MI muX5_isShod 2 := ⟨zk_in 785 (by decide +kernel) (by decide +kernel), in_X5, by decide +kernel, by decide⟩
theorem stX5_isShod : Cond.static yX5_isShod ∈ zk_tb := zk_in 784 (by decide +kernel) (by decide +kernel)
abbrev muX5_shoesBy : zk_I := (yX5_shoesBy, cX5_shoesBy, 1, (some .int), RX5)
theorem miX5_shoesBy : zk_MI muX5_shoesBy 1 := ⟨zk_in 788 (by decide +kernel) (by decide +kernel), in_X5, by decide +kernel, by decide⟩
theorem stX5_shoesBy : Cond.static yX5_shoesBy ∈ zk_tb := zk_in 787 (by decide +kernel) (by decide +kernel)
abbrev muX5_isRider : zk_I := (yX5_isRider, cX5_isRider, 2, (some .boolean), RX5)
theorem miX5_isRider : zk_MI muX5_isRider 1 := ⟨zk_in 792 (by decide +kernel) (by decide +kernel), in_X5, by decide +kernel, by decide⟩
theorem mwX5_isRider : zk_MV muX5_isRider 1 5 := ⟨miX5_isRider, zk_in 791 (by decide +kernel) (by decide +kernel), zk_in 28 (by decide +kernel) (by decide +kernel), _, _, rfl⟩
abbrev muX5_daysOn : zk_I := (yX5_daysOn, cX5_daysOn, 4, none, RX5)
theorem miX5_daysOn : zk_MI muX5_daysOn 2 := ⟨zk_in 796 (by decide +kernel) (by decide +kernel), in_X5, by decide +kernel, by decide⟩
theorem mwX5_daysOn : zk_MV muX5_daysOn 2 5 := ⟨miX5_daysOn, zk_in 795 (by decide +kernel) (by decide +kernel), zk_in 29 (by decide +kernel) (by decide +kernel), _, _, rfl⟩
abbrev muX5_measures : zk_I := (yX5_measures, cX5_measures, 5, none, RX5)
theorem miX5_measures : zk_MI muX5_measures 1 := ⟨zk_in 800 (by decide +kernel) (by decide +kernel), in_X5, by decide +kernel, by decide⟩
theorem mwX5_measures : zk_MV muX5_measures 1 5 := ⟨miX5_measures, zk_in 799 (by decide +kernel) (by decide +kernel), zk_in 30 (by decide +kernel) (by decide +kernel), _, _, rfl⟩
abbrev muX5_has : zk_I := (yX5_has, cX5_has, 2, (some .boolean), RX5)
theorem miX5_has : zk_MI muX5_has 2 := ⟨zk_in 803 (by decide +kernel) (by decide +kernel), in_X5, by decide +kernel, by decide⟩
theorem stX5_has : Cond.static yX5_has ∈ zk_tb := zk_in 802 (by decide +kernel) (by decide +kernel)
abbrev muX5_least : zk_I := (yX5_least, cX5_least, 2, (some .int), RX5)
theorem miX5_least : zk_MI muX5_least 2 := ⟨zk_in 806 (by decide +kernel) (by decide +kernel), in_X5, by decide +kernel, by decide⟩
theorem stX5_least : Cond.static yX5_least ∈ zk_tb := zk_in 805 (by decide +kernel) (by decide +kernel)
abbrev muX5_day : zk_I := (yX5_day, cX5_day, 5, none, RX5)
theorem miX5_day : zk_MI muX5_day 2 := ⟨zk_in 810 (by decide +kernel) (by decide +kernel), in_X5, by decide +kernel, by decide⟩
theorem mwX5_day : zk_MV muX5_day 2 5 := ⟨miX5_day, zk_in 809 (by decide +kernel) (by decide +kernel), zk_in 31 (by decide +kernel) (by decide +kernel), _, _, rfl⟩
abbrev muX5_daysBy : zk_I := (yX5_daysBy, cX5_daysBy, 3, (some .int), RX5)
theorem miX5_daysBy : zk_MI muX5_daysBy 2 := ⟨zk_in 813 (by decide +kernel) (by decide +kernel), in_X5, by decide +kernel, by decide⟩
theorem stX5_daysBy : Cond.static yX5_daysBy ∈ zk_tb := zk_in 812 (by decide +kernel) (by decide +kernel)
abbrev muX5_goes : zk_I := (yX5_goes, cX5_goes, 6, none, RX5)
theorem miX5_goes : zk_MI muX5_goes 2 := ⟨zk_in 817 (by decide +kernel) (by decide +kernel), in_X5, by decide +kernel, by decide⟩
theorem mwX5_goes : zk_MV muX5_goes 2 5 := ⟨miX5_goes, zk_in 816 (by decide +kernel) (by decide +kernel), zk_in 32 (by decide +kernel) (by decide +kernel), _, _, rfl⟩
abbrev muX5_pull : zk_I := (yX5_pull, cX5_pull, 4, (some .int), RX5)
theorem miX5_pull : zk_MI muX5_pull 3 := ⟨zk_in 821 (by decide +kernel) (by decide +kernel), in_X5, by decide +kernel, by decide⟩
theorem mwX5_pull : zk_MV muX5_pull 3 5 := ⟨miX5_pull, zk_in 820 (by decide +kernel) (by decide +kernel), zk_in 33 (by decide +kernel) (by decide +kernel), _, _, rfl⟩
abbrev muX5_rider : zk_I := (yX5_rider, cX5_rider, 3, (some .int), RX5)
theorem miX5_rider : zk_MI muX5_rider 2 := ⟨zk_in 825 (by decide +kernel) (by decide +kernel), in_X5, by decide +kernel, by decide⟩
theorem mwX5_rider : zk_MV muX5_rider 2 5 := ⟨miX5_rider, zk_in 823 (by decide +kernel) (by decide +kernel), zk_in 824 (by decide +kernel) (by decide +kernel), _, _, rfl⟩
abbrev muX5_steps : zk_I := (yX5_steps, cX5_steps, 3, (some .int), RX5)
theorem miX5_steps : zk_MI muX5_steps 2 := ⟨zk_in 829 (by decide +kernel) (by decide +kernel), in_X5, by decide +kernel, by decide⟩
theorem mwX5_steps : zk_MV muX5_steps 2 5 := ⟨miX5_steps, zk_in 827 (by decide +kernel) (by decide +kernel), zk_in 828 (by decide +kernel) (by decide +kernel), _, _, rfl⟩
abbrev muX5_pulls : zk_I := (yX5_pulls, cX5_pulls, 3, (some .int), RX5)
theorem miX5_pulls : zk_MI muX5_pulls 2 := ⟨zk_in 833 (by decide +kernel) (by decide +kernel), in_X5, by decide +kernel, by decide⟩
theorem mwX5_pulls : zk_MV muX5_pulls 2 5 := ⟨miX5_pulls, zk_in 831 (by decide +kernel) (by decide +kernel), zk_in 832 (by decide +kernel) (by decide +kernel), _, _, rfl⟩
abbrev muX5_roads : zk_I := (yX5_roads, cX5_roads, 3, (some .int), RX5)
theorem miX5_roads : zk_MI muX5_roads 2 := ⟨zk_in 837 (by decide +kernel) (by decide +kernel), in_X5, by decide +kernel, by decide⟩
theorem mwX5_roads : zk_MV muX5_roads 2 5 := ⟨miX5_roads, zk_in 835 (by decide +kernel) (by decide +kernel), zk_in 836 (by decide +kernel) (by decide +kernel), _, _, rfl⟩
abbrev muX5_shod : zk_I := (yX5_shod, cX5_shod, 2, (some .int), RX5)
theorem miX5_shod : zk_MI muX5_shod 1 := ⟨zk_in 841 (by decide +kernel) (by decide +kernel), in_X5, by decide +kernel, by decide⟩
theorem mwX5_shod : zk_MV muX5_shod 1 5 := ⟨miX5_shod, zk_in 839 (by decide +kernel) (by decide +kernel), zk_in 840 (by decide +kernel) (by decide +kernel), _, _, rfl⟩
abbrev muX5_wants : zk_I := (yX5_wants, cX5_wants, 3, (some .int), RX5)
theorem miX5_wants : zk_MI muX5_wants 2 := ⟨zk_in 845 (by decide +kernel) (by decide +kernel), in_X5, by decide +kernel, by decide⟩
theorem mwX5_wants : zk_MV muX5_wants 2 5 := ⟨miX5_wants, zk_in 843 (by decide +kernel) (by decide +kernel), zk_in 844 (by decide +kernel) (by decide +kernel), _, _, rfl⟩
abbrev muX5_sets : zk_I := (yX5_sets, cX5_sets, 5, (some .int), RX5)
theorem miX5_sets : zk_MI muX5_sets 3 := ⟨zk_in 849 (by decide +kernel) (by decide +kernel), in_X5, by decide +kernel, by decide⟩
theorem mwX5_sets : zk_MV muX5_sets 3 5 := ⟨miX5_sets, zk_in 848 (by decide +kernel) (by decide +kernel), zk_in 34 (by decide +kernel) (by decide +kernel), _, _, rfl⟩
abbrev muX5_stands : zk_I := (yX5_stands, cX5_stands, 3, (some .int), RX5)
theorem miX5_stands : zk_MI muX5_stands 2 := ⟨zk_in 853 (by decide +kernel) (by decide +kernel), in_X5, by decide +kernel, by decide⟩
theorem mwX5_stands : zk_MV muX5_stands 2 5 := ⟨miX5_stands, zk_in 851 (by decide +kernel) (by decide +kernel), zk_in 852 (by decide +kernel) (by decide +kernel), _, _, rfl⟩
abbrev muX5_turn : zk_I := (yX5_turn, cX5_turn, 6, (some .int), RX5)
theorem miX5_turn : zk_MI muX5_turn 3 := ⟨zk_in 857 (by decide +kernel) (by decide +kernel), in_X5, by decide +kernel, by decide⟩
theorem mwX5_turn : zk_MV muX5_turn 3 5 := ⟨miX5_turn, zk_in 855 (by decide +kernel) (by decide +kernel), zk_in 856 (by decide +kernel) (by decide +kernel), _, _, rfl⟩
abbrev muX5_wrongBy : zk_I := (yX5_wrongBy, cX5_wrongBy, 3, (some .int), RX5)
theorem miX5_wrongBy : zk_MI muX5_wrongBy 3 := ⟨zk_in 860 (by decide +kernel) (by decide +kernel), in_X5, by decide +kernel, by decide⟩
theorem stX5_wrongBy : Cond.static yX5_wrongBy ∈ zk_tb := zk_in 859 (by decide +kernel) (by decide +kernel)
abbrev muX5_days : zk_I := (yX5_days, cX5_days, 2, (some .int), RX5)
theorem miX5_days : zk_MI muX5_days 1 := ⟨zk_in 864 (by decide +kernel) (by decide +kernel), in_X5, by decide +kernel, by decide⟩
theorem mwX5_days : zk_MV muX5_days 1 5 := ⟨miX5_days, zk_in 862 (by decide +kernel) (by decide +kernel), zk_in 863 (by decide +kernel) (by decide +kernel), _, _, rfl⟩
abbrev muX5_atSaid : zk_I := (yX5_atSaid, cX5_atSaid, 3, (some .int), RX5)
theorem miX5_atSaid : zk_MI muX5_atSaid 1 := ⟨zk_in 867 (by decide +kernel) (by decide +kernel), in_X5, by decide +kernel, by decide⟩
theorem stX5_atSaid : Cond.static yX5_atSaid ∈ zk_tb := zk_in 866 (by decide +kernel) (by decide +kernel)
abbrev muX5_bits : zk_I := (yX5_bits, cX5_bits, 3, (some .int), RX5)
theorem miX5_bits : zk_MI muX5_bits 1 := ⟨zk_in 870 (by decide +kernel) (by decide +kernel), in_X5, by decide +kernel, by decide⟩
theorem stX5_bits : Cond.static yX5_bits ∈ zk_tb := zk_in 869 (by decide +kernel) (by decide +kernel)
abbrev muX5_riderThen : zk_I := (yX5_riderThen, cX5_riderThen, 5, (some .int), RX5)
theorem miX5_riderThen : zk_MI muX5_riderThen 3 := ⟨zk_in 874 (by decide +kernel) (by decide +kernel), in_X5, by decide +kernel, by decide⟩
theorem mwX5_riderThen : zk_MV muX5_riderThen 3 5 := ⟨miX5_riderThen, zk_in 872 (by decide +kernel) (by decide +kernel), zk_in 873 (by decide +kernel) (by decide +kernel), _, _, rfl⟩
abbrev muX5_takes : zk_I := (yX5_takes, cX5_takes, 2, none, RX5)
theorem miX5_takes : zk_MI muX5_takes 1 := ⟨zk_in 878 (by decide +kernel) (by decide +kernel), in_X5, by decide +kernel, by decide⟩
theorem mwX5_takes : zk_MV muX5_takes 1 5 := ⟨miX5_takes, zk_in 877 (by decide +kernel) (by decide +kernel), zk_in 35 (by decide +kernel) (by decide +kernel), _, _, rfl⟩
abbrev muX5_comes : zk_I := (yX5_comes, cX5_comes, 3, (some .int), RX5)
theorem miX5_comes : zk_MI muX5_comes 2 := ⟨zk_in 882 (by decide +kernel) (by decide +kernel), in_X5, by decide +kernel, by decide⟩
theorem mwX5_comes : zk_MV muX5_comes 2 5 := ⟨miX5_comes, zk_in 880 (by decide +kernel) (by decide +kernel), zk_in 881 (by decide +kernel) (by decide +kernel), _, _, rfl⟩
abbrev muX5_areWrong : zk_I := (yX5_areWrong, cX5_areWrong, 3, (some .boolean), RX5)
theorem miX5_areWrong : zk_MI muX5_areWrong 2 := ⟨zk_in 886 (by decide +kernel) (by decide +kernel), in_X5, by decide +kernel, by decide⟩
theorem mwX5_areWrong : zk_MV muX5_areWrong 2 5 := ⟨miX5_areWrong, zk_in 885 (by decide +kernel) (by decide +kernel), zk_in 36 (by decide +kernel) (by decide +kernel), _, _, rfl⟩
abbrev muX5_comesNow : zk_I := (yX5_comesNow, cX5_comesNow, 3, (some .int), RX5)
theorem miX5_comesNow : zk_MI muX5_comesNow 2 := ⟨zk_in 890 (by decide +kernel) (by decide +kernel), in_X5, by decide +kernel, by decide⟩
theorem mwX5_comesNow : zk_MV muX5_comesNow 2 5 := ⟨miX5_comesNow, zk_in 889 (by decide +kernel) (by decide +kernel), zk_in 37 (by decide +kernel) (by decide +kernel), _, _, rfl⟩
abbrev muX5_comesIn : zk_I := (yX5_comesIn, cX5_comesIn, 4, (some .int), RX5)
theorem miX5_comesIn : zk_MI muX5_comesIn 2 := ⟨zk_in 894 (by decide +kernel) (by decide +kernel), in_X5, by decide +kernel, by decide⟩
theorem mwX5_comesIn : zk_MV muX5_comesIn 2 5 := ⟨miX5_comesIn, zk_in 893 (by decide +kernel) (by decide +kernel), zk_in 38 (by decide +kernel) (by decide +kernel), _, _, rfl⟩
abbrev muX5_first : zk_I := (yX5_first, cX5_first, 6, (some .int), RX5)
theorem miX5_first : zk_MI muX5_first 1 := ⟨zk_in 898 (by decide +kernel) (by decide +kernel), in_X5, by decide +kernel, by decide⟩
theorem mwX5_first : zk_MV muX5_first 1 5 := ⟨miX5_first, zk_in 896 (by decide +kernel) (by decide +kernel), zk_in 897 (by decide +kernel) (by decide +kernel), _, _, rfl⟩
abbrev muX5_orNever : zk_I := (yX5_orNever, cX5_orNever, 1, (some .int), RX5)
theorem miX5_orNever : zk_MI muX5_orNever 1 := ⟨zk_in 901 (by decide +kernel) (by decide +kernel), in_X5, by decide +kernel, by decide⟩
theorem stX5_orNever : Cond.static yX5_orNever ∈ zk_tb := zk_in 900 (by decide +kernel) (by decide +kernel)
abbrev muX5_rests : zk_I := (yX5_rests, cX5_rests, 3, (some .int), RX5)
theorem miX5_rests : zk_MI muX5_rests 1 := ⟨zk_in 905 (by decide +kernel) (by decide +kernel), in_X5, by decide +kernel, by decide⟩
theorem mwX5_rests : zk_MV muX5_rests 1 5 := ⟨miX5_rests, zk_in 903 (by decide +kernel) (by decide +kernel), zk_in 904 (by decide +kernel) (by decide +kernel), _, _, rfl⟩
abbrev muX5_isResting : zk_I := (yX5_isResting, cX5_isResting, 6, (some .boolean), RX5)
theorem miX5_isResting : zk_MI muX5_isResting 2 := ⟨zk_in 909 (by decide +kernel) (by decide +kernel), in_X5, by decide +kernel, by decide⟩
theorem mwX5_isResting : zk_MV muX5_isResting 2 5 := ⟨miX5_isResting, zk_in 908 (by decide +kernel) (by decide +kernel), zk_in 39 (by decide +kernel) (by decide +kernel), _, _, rfl⟩
abbrev muX5_meet : zk_I := (yX5_meet, cX5_meet, 5, (some .int), RX5)
theorem miX5_meet : zk_MI muX5_meet 3 := ⟨zk_in 913 (by decide +kernel) (by decide +kernel), in_X5, by decide +kernel, by decide⟩
theorem mwX5_meet : zk_MV muX5_meet 3 5 := ⟨miX5_meet, zk_in 911 (by decide +kernel) (by decide +kernel), zk_in 912 (by decide +kernel) (by decide +kernel), _, _, rfl⟩
abbrev muX5_arrived : zk_I := (yX5_arrived, cX5_arrived, 2, (some .int), RX5)
theorem miX5_arrived : zk_MI muX5_arrived 0 := ⟨zk_in 917 (by decide +kernel) (by decide +kernel), in_X5, by decide +kernel, by decide⟩
theorem mwX5_arrived : zk_MV muX5_arrived 0 5 := ⟨miX5_arrived, zk_in 915 (by decide +kernel) (by decide +kernel), zk_in 916 (by decide +kernel) (by decide +kernel), _, _, rfl⟩
abbrev muX5_shoe : zk_I := (yX5_shoe, cX5_shoe, 8, (some .int), RX5)
theorem miX5_shoe : zk_MI muX5_shoe 3 := ⟨zk_in 921 (by decide +kernel) (by decide +kernel), in_X5, by decide +kernel, by decide⟩
theorem mwX5_shoe : zk_MV muX5_shoe 3 5 := ⟨miX5_shoe, zk_in 919 (by decide +kernel) (by decide +kernel), zk_in 920 (by decide +kernel) (by decide +kernel), _, _, rfl⟩
abbrev muX5_wish : zk_I := (yX5_wish, cX5_wish, 7, (some .int), RX5)
theorem miX5_wish : zk_MI muX5_wish 2 := ⟨zk_in 925 (by decide +kernel) (by decide +kernel), in_X5, by decide +kernel, by decide⟩
theorem mwX5_wish : zk_MV muX5_wish 2 5 := ⟨miX5_wish, zk_in 923 (by decide +kernel) (by decide +kernel), zk_in 924 (by decide +kernel) (by decide +kernel), _, _, rfl⟩
abbrev muX5_road : zk_I := (yX5_road, cX5_road, 8, (some .int), RX5)
theorem miX5_road : zk_MI muX5_road 2 := ⟨zk_in 929 (by decide +kernel) (by decide +kernel), in_X5, by decide +kernel, by decide⟩
theorem mwX5_road : zk_MV muX5_road 2 5 := ⟨miX5_road, zk_in 927 (by decide +kernel) (by decide +kernel), zk_in 928 (by decide +kernel) (by decide +kernel), _, _, rfl⟩
abbrev muX5_comesTurned : zk_I := (yX5_comesTurned, cX5_comesTurned, 5, (some .int), RX5)
theorem miX5_comesTurned : zk_MI muX5_comesTurned 4 := ⟨zk_in 933 (by decide +kernel) (by decide +kernel), in_X5, by decide +kernel, by decide⟩
theorem mwX5_comesTurned : zk_MV muX5_comesTurned 4 5 := ⟨miX5_comesTurned, zk_in 932 (by decide +kernel) (by decide +kernel), zk_in 40 (by decide +kernel) (by decide +kernel), _, _, rfl⟩
abbrev muX5_cut : zk_I := (yX5_cut, cX5_cut, 5, (some .int), RX5)
theorem miX5_cut : zk_MI muX5_cut 2 := ⟨zk_in 937 (by decide +kernel) (by decide +kernel), in_X5, by decide +kernel, by decide⟩
theorem mwX5_cut : zk_MV muX5_cut 2 5 := ⟨miX5_cut, zk_in 935 (by decide +kernel) (by decide +kernel), zk_in 936 (by decide +kernel) (by decide +kernel), _, _, rfl⟩
abbrev muX5_inn : zk_I := (yX5_inn, cX5_inn, 6, (some .int), RX5)
theorem miX5_inn : zk_MI muX5_inn 2 := ⟨zk_in 941 (by decide +kernel) (by decide +kernel), in_X5, by decide +kernel, by decide⟩
theorem mwX5_inn : zk_MV muX5_inn 2 5 := ⟨miX5_inn, zk_in 939 (by decide +kernel) (by decide +kernel), zk_in 940 (by decide +kernel) (by decide +kernel), _, _, rfl⟩
abbrev muX5_busiest : zk_I := (yX5_busiest, cX5_busiest, 3, (some .int), RX5)
theorem miX5_busiest : zk_MI muX5_busiest 0 := ⟨zk_in 945 (by decide +kernel) (by decide +kernel), in_X5, by decide +kernel, by decide⟩
theorem mwX5_busiest : zk_MV muX5_busiest 0 5 := ⟨miX5_busiest, zk_in 943 (by decide +kernel) (by decide +kernel), zk_in 944 (by decide +kernel) (by decide +kernel), _, _, rfl⟩
abbrev muX5_near : zk_I := (yX5_near, cX5_near, 2, (some .int), RX5)
theorem miX5_near : zk_MI muX5_near 1 := ⟨zk_in 949 (by decide +kernel) (by decide +kernel), in_X5, by decide +kernel, by decide⟩
theorem mwX5_near : zk_MV muX5_near 1 5 := ⟨miX5_near, zk_in 947 (by decide +kernel) (by decide +kernel), zk_in 948 (by decide +kernel) (by decide +kernel), _, _, rfl⟩
abbrev muX5_apart : zk_I := (yX5_apart, cX5_apart, 4, (some .int), RX5)
theorem miX5_apart : zk_MI muX5_apart 1 := ⟨zk_in 953 (by decide +kernel) (by decide +kernel), in_X5, by decide +kernel, by decide⟩
theorem mwX5_apart : zk_MV muX5_apart 1 5 := ⟨miX5_apart, zk_in 951 (by decide +kernel) (by decide +kernel), zk_in 952 (by decide +kernel) (by decide +kernel), _, _, rfl⟩
abbrev muX5_mostApart : zk_I := (yX5_mostApart, cX5_mostApart, 3, (some .int), RX5)
theorem miX5_mostApart : zk_MI muX5_mostApart 0 := ⟨zk_in 957 (by decide +kernel) (by decide +kernel), in_X5, by decide +kernel, by decide⟩
theorem mwX5_mostApart : zk_MV muX5_mostApart 0 5 := ⟨miX5_mostApart, zk_in 956 (by decide +kernel) (by decide +kernel), zk_in 41 (by decide +kernel) (by decide +kernel), _, _, rfl⟩
abbrev muX5_tired : zk_I := (yX5_tired, cX5_tired, 3, (some .int), RX5)
theorem miX5_tired : zk_MI muX5_tired 0 := ⟨zk_in 961 (by decide +kernel) (by decide +kernel), in_X5, by decide +kernel, by decide⟩
theorem mwX5_tired : zk_MV muX5_tired 0 5 := ⟨miX5_tired, zk_in 959 (by decide +kernel) (by decide +kernel), zk_in 960 (by decide +kernel) (by decide +kernel), _, _, rfl⟩
abbrev muX5_truly : zk_I := (yX5_truly, cX5_truly, 3, (some .int), RX5)
theorem miX5_truly : zk_MI muX5_truly 1 := ⟨zk_in 965 (by decide +kernel) (by decide +kernel), in_X5, by decide +kernel, by decide⟩
theorem mwX5_truly : zk_MV muX5_truly 1 5 := ⟨miX5_truly, zk_in 963 (by decide +kernel) (by decide +kernel), zk_in 964 (by decide +kernel) (by decide +kernel), _, _, rfl⟩
abbrev muX5_total : zk_I := (yX5_total, cX5_total, 3, (some .int), RX5)
theorem miX5_total : zk_MI muX5_total 1 := ⟨zk_in 969 (by decide +kernel) (by decide +kernel), in_X5, by decide +kernel, by decide⟩
theorem mwX5_total : zk_MV muX5_total 1 5 := ⟨miX5_total, zk_in 967 (by decide +kernel) (by decide +kernel), zk_in 968 (by decide +kernel) (by decide +kernel), _, _, rfl⟩
abbrev muX5_totalIn : zk_I := (yX5_totalIn, cX5_totalIn, 3, (some .int), RX5)
theorem miX5_totalIn : zk_MI muX5_totalIn 0 := ⟨zk_in 973 (by decide +kernel) (by decide +kernel), in_X5, by decide +kernel, by decide⟩
theorem mwX5_totalIn : zk_MV muX5_totalIn 0 5 := ⟨miX5_totalIn, zk_in 972 (by decide +kernel) (by decide +kernel), zk_in 42 (by decide +kernel) (by decide +kernel), _, _, rfl⟩
abbrev muX5_stepsLeft : zk_I := (yX5_stepsLeft, cX5_stepsLeft, 3, (some .int), RX5)
theorem miX5_stepsLeft : zk_MI muX5_stepsLeft 2 := ⟨zk_in 977 (by decide +kernel) (by decide +kernel), in_X5, by decide +kernel, by decide⟩
theorem mwX5_stepsLeft : zk_MV muX5_stepsLeft 2 5 := ⟨miX5_stepsLeft, zk_in 976 (by decide +kernel) (by decide +kernel), zk_in 43 (by decide +kernel) (by decide +kernel), _, _, rfl⟩
abbrev muX5_bare : zk_I := (yX5_bare, cX5_bare, 6, (some .int), RX5)
theorem miX5_bare : zk_MI muX5_bare 1 := ⟨zk_in 981 (by decide +kernel) (by decide +kernel), in_X5, by decide +kernel, by decide⟩
theorem mwX5_bare : zk_MV muX5_bare 1 5 := ⟨miX5_bare, zk_in 979 (by decide +kernel) (by decide +kernel), zk_in 980 (by decide +kernel) (by decide +kernel), _, _, rfl⟩
abbrev muX5_two : zk_I := (yX5_two, cX5_two, 8, (some .int), RX5)
theorem miX5_two : zk_MI muX5_two 3 := ⟨zk_in 985 (by decide +kernel) (by decide +kernel), in_X5, by decide +kernel, by decide⟩
theorem mwX5_two : zk_MV muX5_two 3 5 := ⟨miX5_two, zk_in 983 (by decide +kernel) (by decide +kernel), zk_in 984 (by decide +kernel) (by decide +kernel), _, _, rfl⟩
abbrev muX5_costBy : zk_I := (yX5_costBy, cX5_costBy, 7, (some .int), RX5)
theorem miX5_costBy : zk_MI muX5_costBy 6 := ⟨zk_in 989 (by decide +kernel) (by decide +kernel), in_X5, by decide +kernel, by decide⟩
theorem mwX5_costBy : zk_MV muX5_costBy 6 5 := ⟨miX5_costBy, zk_in 988 (by decide +kernel) (by decide +kernel), zk_in 44 (by decide +kernel) (by decide +kernel), _, _, rfl⟩
abbrev muX5_mud : zk_I := (yX5_mud, cX5_mud, 14, (some .long), RX5)
theorem miX5_mud : zk_MI muX5_mud 5 := ⟨zk_in 993 (by decide +kernel) (by decide +kernel), in_X5, by decide +kernel, by decide⟩
theorem mwX5_mud : zk_MV muX5_mud 5 5 := ⟨miX5_mud, zk_in 991 (by decide +kernel) (by decide +kernel), zk_in 992 (by decide +kernel) (by decide +kernel), _, _, rfl⟩
abbrev muX5_noWide : zk_I := (yX5_noWide, cX5_noWide, 2, (some .long), RX5)
theorem miX5_noWide : zk_MI muX5_noWide 1 := ⟨zk_in 997 (by decide +kernel) (by decide +kernel), in_X5, by decide +kernel, by decide⟩
theorem mwX5_noWide : zk_MV muX5_noWide 1 5 := ⟨miX5_noWide, zk_in 996 (by decide +kernel) (by decide +kernel), zk_in 45 (by decide +kernel) (by decide +kernel), _, _, rfl⟩
abbrev muX5_partOf : zk_I := (yX5_partOf, cX5_partOf, 5, (some .long), RX5)
theorem miX5_partOf : zk_MI muX5_partOf 3 := ⟨zk_in 1001 (by decide +kernel) (by decide +kernel), in_X5, by decide +kernel, by decide⟩
theorem stX5_partOf : Cond.static yX5_partOf ∈ zk_tb := zk_in 1000 (by decide +kernel) (by decide +kernel)
abbrev muX5_gcd : zk_I := (yX5_gcd, cX5_gcd, 10, (some .long), RX5)
theorem miX5_gcd : zk_MI muX5_gcd 2 := ⟨zk_in 1004 (by decide +kernel) (by decide +kernel), in_X5, by decide +kernel, by decide⟩
theorem stX5_gcd : Cond.static yX5_gcd ∈ zk_tb := zk_in 1003 (by decide +kernel) (by decide +kernel)
abbrev muX5_mean : zk_I := (yX5_mean, cX5_mean, 2, (some .long), RX5)
theorem miX5_mean : zk_MI muX5_mean 1 := ⟨zk_in 1008 (by decide +kernel) (by decide +kernel), in_X5, by decide +kernel, by decide⟩
theorem mwX5_mean : zk_MV muX5_mean 1 5 := ⟨miX5_mean, zk_in 1006 (by decide +kernel) (by decide +kernel), zk_in 1007 (by decide +kernel) (by decide +kernel), _, _, rfl⟩
abbrev muX5_sum : zk_I := (yX5_sum, cX5_sum, 4, (some .int), RX5)
theorem miX5_sum : zk_MI muX5_sum 1 := ⟨zk_in 1012 (by decide +kernel) (by decide +kernel), in_X5, by decide +kernel, by decide⟩
theorem mwX5_sum : zk_MV muX5_sum 1 5 := ⟨miX5_sum, zk_in 1011 (by decide +kernel) (by decide +kernel), zk_in 46 (by decide +kernel) (by decide +kernel), _, _, rfl⟩
abbrev muX5_whatWanted : zk_I := (yX5_whatWanted, cX5_whatWanted, 7, (some .int), RX5)
theorem miX5_whatWanted : zk_MI muX5_whatWanted 2 := ⟨zk_in 1016 (by decide +kernel) (by decide +kernel), in_X5, by decide +kernel, by decide⟩
theorem mwX5_whatWanted : zk_MV muX5_whatWanted 2 5 := ⟨miX5_whatWanted, zk_in 1014 (by decide +kernel) (by decide +kernel), zk_in 1015 (by decide +kernel) (by decide +kernel), _, _, rfl⟩
abbrev muX5_row : zk_I := (yX5_row, cX5_row, 3, (some .int), RX5)
theorem miX5_row : zk_MI muX5_row 1 := ⟨zk_in 1020 (by decide +kernel) (by decide +kernel), in_X5, by decide +kernel, by decide⟩
theorem mwX5_row : zk_MV muX5_row 1 5 := ⟨miX5_row, zk_in 1018 (by decide +kernel) (by decide +kernel), zk_in 1019 (by decide +kernel) (by decide +kernel), _, _, rfl⟩
abbrev muX5_judge : zk_I := (yX5_judge, cX5_judge, 3, (some .int), RX5)
theorem miX5_judge : zk_MI muX5_judge 0 := ⟨zk_in 1024 (by decide +kernel) (by decide +kernel), in_X5, by decide +kernel, by decide⟩
theorem mwX5_judge : zk_MV muX5_judge 0 5 := ⟨miX5_judge, zk_in 1022 (by decide +kernel) (by decide +kernel), zk_in 1023 (by decide +kernel) (by decide +kernel), _, _, rfl⟩
abbrev muX5_clear : zk_I := (yX5_clear, cX5_clear, 2, (some .int), RX5)
theorem miX5_clear : zk_MI muX5_clear 0 := ⟨zk_in 1028 (by decide +kernel) (by decide +kernel), in_X5, by decide +kernel, by decide⟩
theorem mwX5_clear : zk_MV muX5_clear 0 5 := ⟨miX5_clear, zk_in 1026 (by decide +kernel) (by decide +kernel), zk_in 1027 (by decide +kernel) (by decide +kernel), _, _, rfl⟩
abbrev muX5_lots : zk_I := (yX5_lots, cX5_lots, 7, (some .int), RX5)
theorem miX5_lots : zk_MI muX5_lots 3 := ⟨zk_in 1032 (by decide +kernel) (by decide +kernel), in_X5, by decide +kernel, by decide⟩
theorem mwX5_lots : zk_MV muX5_lots 3 5 := ⟨miX5_lots, zk_in 1030 (by decide +kernel) (by decide +kernel), zk_in 1031 (by decide +kernel) (by decide +kernel), _, _, rfl⟩
abbrev muX5_drawn : zk_I := (yX5_drawn, cX5_drawn, 2, (some .int), RX5)
theorem miX5_drawn : zk_MI muX5_drawn 1 := ⟨zk_in 1036 (by decide +kernel) (by decide +kernel), in_X5, by decide +kernel, by decide⟩
theorem mwX5_drawn : zk_MV muX5_drawn 1 5 := ⟨miX5_drawn, zk_in 1035 (by decide +kernel) (by decide +kernel), zk_in 47 (by decide +kernel) (by decide +kernel), _, _, rfl⟩
abbrev muX5_image : zk_I := (yX5_image, cX5_image, 1, (some .int), RX5)
theorem miX5_image : zk_MI muX5_image 0 := ⟨zk_in 1043 (by decide +kernel) (by decide +kernel), in_X5, by decide +kernel, by decide⟩
theorem mwX5_image : zk_MV muX5_image 0 5 := ⟨miX5_image, zk_in 1041 (by decide +kernel) (by decide +kernel), zk_in 1042 (by decide +kernel) (by decide +kernel), _, _, rfl⟩
abbrev muX5_on : zk_I := (yX5_on, cX5_on, 1, (some .int), RX5)
theorem miX5_on : zk_MI muX5_on 0 := ⟨zk_in 1047 (by decide +kernel) (by decide +kernel), in_X5, by decide +kernel, by decide⟩
theorem mwX5_on : zk_MV muX5_on 0 5 := ⟨miX5_on, zk_in 1045 (by decide +kernel) (by decide +kernel), zk_in 1046 (by decide +kernel) (by decide +kernel), _, _, rfl⟩
abbrev muX5_count : zk_I := (yX5_count, cX5_count, 4, (some .int), RX5)
theorem miX5_count : zk_MI muX5_count 1 := ⟨zk_in 1051 (by decide +kernel) (by decide +kernel), in_X5, by decide +kernel, by decide⟩
theorem mwX5_count : zk_MV muX5_count 1 5 := ⟨miX5_count, zk_in 1049 (by decide +kernel) (by decide +kernel), zk_in 1050 (by decide +kernel) (by decide +kernel), _, _, rfl⟩
theorem st_mmin : Cond.static Lib.Math.min.name ∈ zk_tb := zk_in 90 (by decide +kernel) (by decide +kernel)
theorem st_mmax : Cond.static Lib.Math.max.name ∈ zk_tb := zk_in 533 (by decide +kernel) (by decide +kernel)
theorem st_copy : Cond.static arraycopyName ∈ zk_tb := zk_in 253 (by decide +kernel) (by decide +kernel)
theorem na_copy : Cond.native arraycopyName ∈ zk_tb := zk_in 254 (by decide +kernel) (by decide +kernel)
theorem ml_L_9 : Cond.methodLink RL 9 yX4_init ∈ zk_tb := zk_in 60 (by decide +kernel) (by decide +kernel)
theorem ml_X4_3 : Cond.methodLink RX4 3 objectInit ∈ zk_tb := zk_in 63 (by decide +kernel) (by decide +kernel)
theorem ml_X4_11 : Cond.methodLink RX4 11 yX0_init ∈ zk_tb := zk_in 68 (by decide +kernel) (by decide +kernel)
theorem ml_X0_3 : Cond.methodLink RX0 3 objectInit ∈ zk_tb := zk_in 71 (by decide +kernel) (by decide +kernel)
theorem ml_X0_11 : Cond.methodLink RX0 11 yX2_init ∈ zk_tb := zk_in 74 (by decide +kernel) (by decide +kernel)
theorem ml_X2_3 : Cond.methodLink RX2 3 objectInit ∈ zk_tb := zk_in 77 (by decide +kernel) (by decide +kernel)
theorem ml_X2_18 : Cond.methodLink RX2 18 yX2_reckonSteps ∈ zk_tb := zk_in 78 (by decide +kernel) (by decide +kernel)
theorem ml_X2_46 : Cond.methodLink RX2 46 yX2_joins ∈ zk_tb := zk_in 82 (by decide +kernel) (by decide +kernel)
theorem nl_X2_27 : Cond.methodLinkNest RX2 27 yX4_isPlace "ShodForTheRoad" ∈ zk_nw := List.mem_filter.mpr ⟨List.mem_of_getElem? (i := 86) (by decide +kernel), rfl⟩
theorem ml_X2_50 : Cond.methodLink RX2 50 Lib.Math.min.name ∈ zk_tb := zk_in 89 (by decide +kernel) (by decide +kernel)
theorem fl_X2_9 : zk_FL RX2 9 2 0 := ⟨_, _, _, rfl, by decide, rfl, zk_u2, zk_in 92 (by decide +kernel) (by decide +kernel)⟩
theorem fl_X4_207 : zk_FL RX4 207 2 0 := ⟨_, _, _, rfl, by decide, rfl, zk_u2, zk_in 93 (by decide +kernel) (by decide +kernel)⟩
theorem fl_X2_15 : zk_FL RX2 15 2 1 := ⟨_, _, _, rfl, by decide, rfl, zk_u2, zk_in 94 (by decide +kernel) (by decide +kernel)⟩
theorem ml_X0_24 : Cond.methodLink RX0 24 yX1_init ∈ zk_tb := zk_in 104 (by decide +kernel) (by decide +kernel)
theorem ml_X1_3 : Cond.methodLink RX1 3 objectInit ∈ zk_tb := zk_in 107 (by decide +kernel) (by decide +kernel)
theorem fl_X1_9 : zk_FL RX1 9 1 0 := ⟨_, _, _, rfl, by decide, rfl, zk_u1, zk_in 108 (by decide +kernel) (by decide +kernel)⟩
theorem fl_X4_93 : zk_FL RX4 93 1 0 := ⟨_, _, _, rfl, by decide, rfl, zk_u1, zk_in 109 (by decide +kernel) (by decide +kernel)⟩
theorem fl_X0_47 : zk_FL RX0 47 1 0 := ⟨_, _, _, rfl, by decide, rfl, zk_u1, zk_in 110 (by decide +kernel) (by decide +kernel)⟩
theorem fl_X1_15 : zk_FL RX1 15 1 1 := ⟨_, _, _, rfl, by decide, rfl, zk_u1, zk_in 111 (by decide +kernel) (by decide +kernel)⟩
theorem fl_X4_97 : zk_FL RX4 97 1 1 := ⟨_, _, _, rfl, by decide, rfl, zk_u1, zk_in 112 (by decide +kernel) (by decide +kernel)⟩
theorem fl_X0_50 : zk_FL RX0 50 1 1 := ⟨_, _, _, rfl, by decide, rfl, zk_u1, zk_in 113 (by decide +kernel) (by decide +kernel)⟩
theorem fl_X1_18 : zk_FL RX1 18 1 2 := ⟨_, _, _, rfl, by decide, rfl, zk_u1, zk_in 114 (by decide +kernel) (by decide +kernel)⟩
theorem fl_X4_100 : zk_FL RX4 100 1 2 := ⟨_, _, _, rfl, by decide, rfl, zk_u1, zk_in 115 (by decide +kernel) (by decide +kernel)⟩
theorem fl_X0_53 : zk_FL RX0 53 1 2 := ⟨_, _, _, rfl, by decide, rfl, zk_u1, zk_in 116 (by decide +kernel) (by decide +kernel)⟩
theorem fl_X1_21 : zk_FL RX1 21 1 3 := ⟨_, _, _, rfl, by decide, rfl, zk_u1, zk_in 117 (by decide +kernel) (by decide +kernel)⟩
theorem fl_X4_103 : zk_FL RX4 103 1 3 := ⟨_, _, _, rfl, by decide, rfl, zk_u1, zk_in 118 (by decide +kernel) (by decide +kernel)⟩
theorem fl_X0_56 : zk_FL RX0 56 1 3 := ⟨_, _, _, rfl, by decide, rfl, zk_u1, zk_in 119 (by decide +kernel) (by decide +kernel)⟩
theorem fl_X1_24 : zk_FL RX1 24 1 4 := ⟨_, _, _, rfl, by decide, rfl, zk_u1, zk_in 120 (by decide +kernel) (by decide +kernel)⟩
theorem fl_X4_106 : zk_FL RX4 106 1 4 := ⟨_, _, _, rfl, by decide, rfl, zk_u1, zk_in 121 (by decide +kernel) (by decide +kernel)⟩
theorem fl_X0_59 : zk_FL RX0 59 1 4 := ⟨_, _, _, rfl, by decide, rfl, zk_u1, zk_in 122 (by decide +kernel) (by decide +kernel)⟩
theorem fl_X1_27 : zk_FL RX1 27 1 5 := ⟨_, _, _, rfl, by decide, rfl, zk_u1, zk_in 123 (by decide +kernel) (by decide +kernel)⟩
theorem fl_X4_109 : zk_FL RX4 109 1 5 := ⟨_, _, _, rfl, by decide, rfl, zk_u1, zk_in 124 (by decide +kernel) (by decide +kernel)⟩
theorem fl_X0_79 : zk_FL RX0 79 1 5 := ⟨_, _, _, rfl, by decide, rfl, zk_u1, zk_in 125 (by decide +kernel) (by decide +kernel)⟩
theorem fl_X1_30 : zk_FL RX1 30 1 6 := ⟨_, _, _, rfl, by decide, rfl, zk_u1, zk_in 126 (by decide +kernel) (by decide +kernel)⟩
theorem fl_X4_112 : zk_FL RX4 112 1 6 := ⟨_, _, _, rfl, by decide, rfl, zk_u1, zk_in 127 (by decide +kernel) (by decide +kernel)⟩
theorem fl_X0_82 : zk_FL RX0 82 1 6 := ⟨_, _, _, rfl, by decide, rfl, zk_u1, zk_in 128 (by decide +kernel) (by decide +kernel)⟩
theorem fl_X0_12 : zk_FL RX0 12 0 0 := ⟨_, _, _, rfl, by decide, rfl, zk_u0, zk_in 144 (by decide +kernel) (by decide +kernel)⟩
theorem fl_X4_122 : zk_FL RX4 122 0 0 := ⟨_, _, _, rfl, by decide, rfl, zk_u0, zk_in 145 (by decide +kernel) (by decide +kernel)⟩
theorem fl_X0_20 : zk_FL RX0 20 0 1 := ⟨_, _, _, rfl, by decide, rfl, zk_u0, zk_in 146 (by decide +kernel) (by decide +kernel)⟩
theorem fl_X4_89 : zk_FL RX4 89 0 1 := ⟨_, _, _, rfl, by decide, rfl, zk_u0, zk_in 147 (by decide +kernel) (by decide +kernel)⟩
theorem fl_X0_32 : zk_FL RX0 32 0 2 := ⟨_, _, _, rfl, by decide, rfl, zk_u0, zk_in 148 (by decide +kernel) (by decide +kernel)⟩
theorem fl_X4_181 : zk_FL RX4 181 0 2 := ⟨_, _, _, rfl, by decide, rfl, zk_u0, zk_in 149 (by decide +kernel) (by decide +kernel)⟩
theorem fl_X0_36 : zk_FL RX0 36 0 3 := ⟨_, _, _, rfl, by decide, rfl, zk_u0, zk_in 150 (by decide +kernel) (by decide +kernel)⟩
theorem fl_X4_274 : zk_FL RX4 274 0 3 := ⟨_, _, _, rfl, by decide, rfl, zk_u0, zk_in 151 (by decide +kernel) (by decide +kernel)⟩
theorem ml_X4_24 : Cond.methodLink RX4 24 yX2_init ∈ zk_tb := zk_in 162 (by decide +kernel) (by decide +kernel)
theorem ml_X4_31 : Cond.methodLink RX4 31 yX1_init ∈ zk_tb := zk_in 164 (by decide +kernel) (by decide +kernel)
theorem ml_X4_41 : Cond.methodLink RX4 41 yX3_init ∈ zk_tb := zk_in 167 (by decide +kernel) (by decide +kernel)
theorem ml_X3_3 : Cond.methodLink RX3 3 objectInit ∈ zk_tb := zk_in 170 (by decide +kernel) (by decide +kernel)
theorem fl_X3_9 : zk_FL RX3 9 3 0 := ⟨_, _, _, rfl, by decide, rfl, zk_u3, zk_in 171 (by decide +kernel) (by decide +kernel)⟩
theorem fl_X3_15 : zk_FL RX3 15 3 1 := ⟨_, _, _, rfl, by decide, rfl, zk_u3, zk_in 172 (by decide +kernel) (by decide +kernel)⟩
theorem fl_X4_283 : zk_FL RX4 283 3 1 := ⟨_, _, _, rfl, by decide, rfl, zk_u3, zk_in 173 (by decide +kernel) (by decide +kernel)⟩
theorem fl_X4_12 : zk_FL RX4 12 4 0 := ⟨_, _, _, rfl, by decide, rfl, zk_u4, zk_in 179 (by decide +kernel) (by decide +kernel)⟩
theorem fl_X4_16 : zk_FL RX4 16 4 1 := ⟨_, _, _, rfl, by decide, rfl, zk_u4, zk_in 180 (by decide +kernel) (by decide +kernel)⟩
theorem fl_X4_19 : zk_FL RX4 19 4 2 := ⟨_, _, _, rfl, by decide, rfl, zk_u4, zk_in 181 (by decide +kernel) (by decide +kernel)⟩
theorem fl_X4_25 : zk_FL RX4 25 4 3 := ⟨_, _, _, rfl, by decide, rfl, zk_u4, zk_in 182 (by decide +kernel) (by decide +kernel)⟩
theorem fl_X4_32 : zk_FL RX4 32 4 4 := ⟨_, _, _, rfl, by decide, rfl, zk_u4, zk_in 183 (by decide +kernel) (by decide +kernel)⟩
theorem fl_X4_36 : zk_FL RX4 36 4 5 := ⟨_, _, _, rfl, by decide, rfl, zk_u4, zk_in 184 (by decide +kernel) (by decide +kernel)⟩
theorem fl_X4_42 : zk_FL RX4 42 4 6 := ⟨_, _, _, rfl, by decide, rfl, zk_u4, zk_in 185 (by decide +kernel) (by decide +kernel)⟩
theorem fl_X4_46 : zk_FL RX4 46 4 7 := ⟨_, _, _, rfl, by decide, rfl, zk_u4, zk_in 186 (by decide +kernel) (by decide +kernel)⟩
theorem fl_X4_50 : zk_FL RX4 50 4 8 := ⟨_, _, _, rfl, by decide, rfl, zk_u4, zk_in 187 (by decide +kernel) (by decide +kernel)⟩
theorem fl_X4_53 : zk_FL RX4 53 4 9 := ⟨_, _, _, rfl, by decide, rfl, zk_u4, zk_in 188 (by decide +kernel) (by decide +kernel)⟩
theorem fl_X4_56 : zk_FL RX4 56 4 10 := ⟨_, _, _, rfl, by decide, rfl, zk_u4, zk_in 189 (by decide +kernel) (by decide +kernel)⟩
theorem fl_X4_60 : zk_FL RX4 60 4 11 := ⟨_, _, _, rfl, by decide, rfl, zk_u4, zk_in 190 (by decide +kernel) (by decide +kernel)⟩
theorem fl_X4_251 : zk_FL RX4 251 4 12 := ⟨_, _, _, rfl, by decide, rfl, zk_u4, zk_in 191 (by decide +kernel) (by decide +kernel)⟩
theorem fl_X4_270 : zk_FL RX4 270 4 13 := ⟨_, _, _, rfl, by decide, rfl, zk_u4, zk_in 192 (by decide +kernel) (by decide +kernel)⟩
theorem ml_L_13 : Cond.methodLink RL 13 yX4_letter ∈ zk_tb := zk_in 223 (by decide +kernel) (by decide +kernel)
theorem ml_X4_63 : Cond.methodLink RX4 63 yX4_refuse ∈ zk_tb := zk_in 227 (by decide +kernel) (by decide +kernel)
theorem ml_X4_67 : Cond.methodLink RX4 67 yX3_isFull ∈ zk_tb := zk_in 231 (by decide +kernel) (by decide +kernel)
theorem ml_X4_71 : Cond.methodLink RX4 71 yX3_add ∈ zk_tb := zk_in 235 (by decide +kernel) (by decide +kernel)
theorem ml_X3_19 : Cond.methodLink RX3 19 yX3_isFull ∈ zk_tb := zk_in 239 (by decide +kernel) (by decide +kernel)
theorem ml_L_18 : Cond.methodLink RL 18 yX4_county ∈ zk_tb := zk_in 240 (by decide +kernel) (by decide +kernel)
theorem ml_X4_74 : Cond.methodLink RX4 74 yX0_becomes ∈ zk_tb := zk_in 244 (by decide +kernel) (by decide +kernel)
theorem ml_X0_25 : Cond.methodLink RX0 25 yX2_becomes ∈ zk_tb := zk_in 248 (by decide +kernel) (by decide +kernel)
theorem ml_X2_21 : Cond.methodLink RX2 21 arraycopyName ∈ zk_tb := zk_in 252 (by decide +kernel) (by decide +kernel)
theorem ml_X0_29 : Cond.methodLink RX0 29 yX1_becomes ∈ zk_tb := zk_in 255 (by decide +kernel) (by decide +kernel)
theorem ml_X4_78 : Cond.methodLink RX4 78 yX3_tellTo ∈ zk_tb := zk_in 259 (by decide +kernel) (by decide +kernel)
theorem ml_X3_23 : Cond.methodLink RX3 23 yX3_firstUnfit ∈ zk_tb := zk_in 263 (by decide +kernel) (by decide +kernel)
theorem ml_X3_42 : Cond.methodLink RX3 42 yX3_fits ∈ zk_tb := zk_in 267 (by decide +kernel) (by decide +kernel)
theorem ml_X3_31 : Cond.methodLink RX3 31 yX3_signAt ∈ zk_tb := zk_in 271 (by decide +kernel) (by decide +kernel)
theorem nl_X3_38 : Cond.methodLinkNest RX3 38 yX4_isBelow "ShodForTheRoad" ∈ zk_nw := List.mem_filter.mpr ⟨List.mem_of_getElem? (i := 275) (by decide +kernel), rfl⟩
theorem ml_X3_35 : Cond.methodLink RX3 35 yX3_lettersOf ∈ zk_tb := zk_in 278 (by decide +kernel) (by decide +kernel)
theorem nl_X3_45 : Cond.methodLinkNest RX3 45 yX4_kindOfLetter "ShodForTheRoad" ∈ zk_nw := List.mem_filter.mpr ⟨List.mem_of_getElem? (i := 281) (by decide +kernel), rfl⟩
theorem ml_X3_27 : Cond.methodLink RX3 27 yX3_tellStatement ∈ zk_tb := zk_in 284 (by decide +kernel) (by decide +kernel)
theorem ml_X3_48 : Cond.methodLink RX3 48 yX3_digitAt ∈ zk_tb := zk_in 288 (by decide +kernel) (by decide +kernel)
theorem ml_X3_51 : Cond.methodLink RX3 51 yX0_changeRoad ∈ zk_tb := zk_in 292 (by decide +kernel) (by decide +kernel)
theorem nl_X0_39 : Cond.methodLinkNest RX0 39 yX4_isPlace "ShodForTheRoad" ∈ zk_nw := List.mem_filter.mpr ⟨List.mem_of_getElem? (i := 296) (by decide +kernel), rfl⟩
theorem ml_X0_43 : Cond.methodLink RX0 43 yX2_change ∈ zk_tb := zk_in 297 (by decide +kernel) (by decide +kernel)
theorem ml_X3_56 : Cond.methodLink RX3 56 yX3_tellRider ∈ zk_tb := zk_in 301 (by decide +kernel) (by decide +kernel)
theorem ml_X3_72 : Cond.methodLink RX3 72 yX0_addRider ∈ zk_tb := zk_in 305 (by decide +kernel) (by decide +kernel)
theorem ml_X0_62 : Cond.methodLink RX0 62 yX1_shoeAnew ∈ zk_tb := zk_in 309 (by decide +kernel) (by decide +kernel)
theorem nl_X1_33 : Cond.methodLinkNest RX1 33 yX4_shoesOfKind "ShodForTheRoad" ∈ zk_nw := List.mem_filter.mpr ⟨List.mem_of_getElem? (i := 313) (by decide +kernel), rfl⟩
theorem ml_X3_59 : Cond.methodLink RX3 59 yX0_shoeAnew ∈ zk_tb := zk_in 316 (by decide +kernel) (by decide +kernel)
theorem ml_X0_65 : Cond.methodLink RX0 65 yX0_hasRider ∈ zk_tb := zk_in 320 (by decide +kernel) (by decide +kernel)
theorem ml_X3_63 : Cond.methodLink RX3 63 yX0_setGoal ∈ zk_tb := zk_in 324 (by decide +kernel) (by decide +kernel)
theorem ml_X3_66 : Cond.methodLink RX3 66 yX0_setAt ∈ zk_tb := zk_in 328 (by decide +kernel) (by decide +kernel)
theorem ml_X3_69 : Cond.methodLink RX3 69 yX0_passDays ∈ zk_tb := zk_in 332 (by decide +kernel) (by decide +kernel)
theorem ml_X0_68 : Cond.methodLink RX0 68 yX1_rideDay ∈ zk_tb := zk_in 336 (by decide +kernel) (by decide +kernel)
theorem ml_X1_63 : Cond.methodLink RX1 63 yX1_wearIron ∈ zk_tb := zk_in 340 (by decide +kernel) (by decide +kernel)
theorem ml_X1_41 : Cond.methodLink RX1 41 Lib.Math.min.name ∈ zk_tb := zk_in 344 (by decide +kernel) (by decide +kernel)
theorem ml_X1_46 : Cond.methodLink RX1 46 yX1_daysForShoe ∈ zk_tb := zk_in 345 (by decide +kernel) (by decide +kernel)
theorem nl_X1_37 : Cond.methodLinkNest RX1 37 yX4_daysOfKind "ShodForTheRoad" ∈ zk_nw := List.mem_filter.mpr ⟨List.mem_of_getElem? (i := 349) (by decide +kernel), rfl⟩
theorem ml_X1_66 : Cond.methodLink RX1 66 yX1_nextFrom ∈ zk_tb := zk_in 352 (by decide +kernel) (by decide +kernel)
theorem ml_X1_55 : Cond.methodLink RX1 55 yX1_pullOf ∈ zk_tb := zk_in 356 (by decide +kernel) (by decide +kernel)
theorem ml_X1_50 : Cond.methodLink RX1 50 yX2_stepsBetween ∈ zk_tb := zk_in 360 (by decide +kernel) (by decide +kernel)
theorem ml_X1_59 : Cond.methodLink RX1 59 yX2_joins ∈ zk_tb := zk_in 364 (by decide +kernel) (by decide +kernel)
theorem ml_X4_82 : Cond.methodLink RX4 82 yX3_forget ∈ zk_tb := zk_in 365 (by decide +kernel) (by decide +kernel)
theorem ml_L_23 : Cond.methodLink RL 23 yX4_rider ∈ zk_tb := zk_in 369 (by decide +kernel) (by decide +kernel)
theorem ml_X4_85 : Cond.methodLink RX4 85 yX0_hasRider ∈ zk_tb := zk_in 373 (by decide +kernel) (by decide +kernel)
theorem ml_X4_115 : Cond.methodLink RX4 115 yX1_daysForShoe ∈ zk_tb := zk_in 374 (by decide +kernel) (by decide +kernel)
theorem ml_L_28 : Cond.methodLink RL 28 yX4_steps ∈ zk_tb := zk_in 375 (by decide +kernel) (by decide +kernel)
theorem ml_X4_119 : Cond.methodLink RX4 119 yX4_isPlace ∈ zk_tb := zk_in 379 (by decide +kernel) (by decide +kernel)
theorem ml_X4_125 : Cond.methodLink RX4 125 yX2_stepsBetween ∈ zk_tb := zk_in 380 (by decide +kernel) (by decide +kernel)
theorem ml_L_32 : Cond.methodLink RL 32 yX4_pulls ∈ zk_tb := zk_in 381 (by decide +kernel) (by decide +kernel)
theorem ml_X4_129 : Cond.methodLink RX4 129 yX1_pullOf ∈ zk_tb := zk_in 385 (by decide +kernel) (by decide +kernel)
theorem ml_L_36 : Cond.methodLink RL 36 yX4_roads ∈ zk_tb := zk_in 386 (by decide +kernel) (by decide +kernel)
theorem ml_X4_133 : Cond.methodLink RX4 133 yX0_changeRoad ∈ zk_tb := zk_in 390 (by decide +kernel) (by decide +kernel)
theorem ml_X4_137 : Cond.methodLink RX4 137 yX2_joins ∈ zk_tb := zk_in 391 (by decide +kernel) (by decide +kernel)
theorem ml_L_40 : Cond.methodLink RL 40 yX4_shod ∈ zk_tb := zk_in 392 (by decide +kernel) (by decide +kernel)
theorem ml_X4_140 : Cond.methodLink RX4 140 yX0_shoeAnew ∈ zk_tb := zk_in 396 (by decide +kernel) (by decide +kernel)
theorem ml_L_44 : Cond.methodLink RL 44 yX4_wants ∈ zk_tb := zk_in 397 (by decide +kernel) (by decide +kernel)
theorem ml_X4_143 : Cond.methodLink RX4 143 yX0_setGoal ∈ zk_tb := zk_in 401 (by decide +kernel) (by decide +kernel)
theorem ml_L_48 : Cond.methodLink RL 48 yX4_stands ∈ zk_tb := zk_in 402 (by decide +kernel) (by decide +kernel)
theorem ml_X4_146 : Cond.methodLink RX4 146 yX0_setAt ∈ zk_tb := zk_in 406 (by decide +kernel) (by decide +kernel)
theorem ml_L_52 : Cond.methodLink RL 52 yX4_turn ∈ zk_tb := zk_in 407 (by decide +kernel) (by decide +kernel)
theorem ml_X4_149 : Cond.methodLink RX4 149 yX4_isBelow ∈ zk_tb := zk_in 411 (by decide +kernel) (by decide +kernel)
theorem ml_L_57 : Cond.methodLink RL 57 yX4_days ∈ zk_tb := zk_in 412 (by decide +kernel) (by decide +kernel)
theorem ml_X4_152 : Cond.methodLink RX4 152 yX0_passDays ∈ zk_tb := zk_in 416 (by decide +kernel) (by decide +kernel)
theorem ml_X4_155 : Cond.methodLink RX4 155 yX0_arrivedBits ∈ zk_tb := zk_in 417 (by decide +kernel) (by decide +kernel)
theorem ml_X0_71 : Cond.methodLink RX0 71 yX1_isWhereHeSays ∈ zk_tb := zk_in 421 (by decide +kernel) (by decide +kernel)
theorem ml_X4_158 : Cond.methodLink RX4 158 yJ6_bitCount_0f7a4 ∈ zk_tb := zk_in 425 (by decide +kernel) (by decide +kernel)
theorem ct_J6_265 : Cond.constant RJ6 265 (1431655765 : Int32) ∈ zk_tb := zk_in 428 (by decide +kernel) (by decide +kernel)
theorem ct_J6_266 : Cond.constant RJ6 266 (858993459 : Int32) ∈ zk_tb := zk_in 429 (by decide +kernel) (by decide +kernel)
theorem ct_J6_267 : Cond.constant RJ6 267 (252645135 : Int32) ∈ zk_tb := zk_in 430 (by decide +kernel) (by decide +kernel)
theorem ml_L_61 : Cond.methodLink RL 61 yX4_riderThen ∈ zk_tb := zk_in 431 (by decide +kernel) (by decide +kernel)
theorem ml_X4_163 : Cond.methodLink RX4 163 yX4_refusalOfNumber ∈ zk_tb := zk_in 435 (by decide +kernel) (by decide +kernel)
theorem ml_X4_167 : Cond.methodLink RX4 167 yX4_thinkOf ∈ zk_tb := zk_in 438 (by decide +kernel) (by decide +kernel)
theorem ml_X4_188 : Cond.methodLink RX4 188 yX1_becomes ∈ zk_tb := zk_in 442 (by decide +kernel) (by decide +kernel)
theorem ml_X4_171 : Cond.methodLink RX4 171 yX1_rideDays ∈ zk_tb := zk_in 443 (by decide +kernel) (by decide +kernel)
theorem ml_X1_69 : Cond.methodLink RX1 69 yX1_rideDay ∈ zk_tb := zk_in 447 (by decide +kernel) (by decide +kernel)
theorem ml_L_65 : Cond.methodLink RL 65 yX4_comes ∈ zk_tb := zk_in 448 (by decide +kernel) (by decide +kernel)
theorem ml_X4_175 : Cond.methodLink RX4 175 yX4_comesNow ∈ zk_tb := zk_in 452 (by decide +kernel) (by decide +kernel)
theorem ml_X4_197 : Cond.methodLink RX4 197 yX1_daysUntilAt ∈ zk_tb := zk_in 456 (by decide +kernel) (by decide +kernel)
theorem ml_X4_178 : Cond.methodLink RX4 178 yX4_dayOrNone ∈ zk_tb := zk_in 460 (by decide +kernel) (by decide +kernel)
theorem ml_L_69 : Cond.methodLink RL 69 yX4_first ∈ zk_tb := zk_in 463 (by decide +kernel) (by decide +kernel)
theorem ml_L_73 : Cond.methodLink RL 73 yX4_rests ∈ zk_tb := zk_in 467 (by decide +kernel) (by decide +kernel)
theorem ml_X4_184 : Cond.methodLink RX4 184 yX1_rideDay ∈ zk_tb := zk_in 471 (by decide +kernel) (by decide +kernel)
theorem ml_L_77 : Cond.methodLink RL 77 yX4_meet ∈ zk_tb := zk_in 472 (by decide +kernel) (by decide +kernel)
theorem ml_L_81 : Cond.methodLink RL 81 yX4_arrived ∈ zk_tb := zk_in 476 (by decide +kernel) (by decide +kernel)
theorem ct_X4_191 : Cond.constantLong RX4 191 (-1 : Int64) ∈ zk_tb := zk_in 480 (by decide +kernel) (by decide +kernel)
theorem ml_X4_193 : Cond.methodLink RX4 193 yX4_mindDaysWhereHeSays ∈ zk_tb := zk_in 481 (by decide +kernel) (by decide +kernel)
theorem ml_X4_267 : Cond.methodLink RX4 267 yX1_isWhereHeSays ∈ zk_tb := zk_in 485 (by decide +kernel) (by decide +kernel)
theorem ml_L_85 : Cond.methodLink RL 85 yX4_shoe ∈ zk_tb := zk_in 486 (by decide +kernel) (by decide +kernel)
theorem ml_L_89 : Cond.methodLink RL 89 yX4_wish ∈ zk_tb := zk_in 490 (by decide +kernel) (by decide +kernel)
theorem ml_L_93 : Cond.methodLink RL 93 yX4_road ∈ zk_tb := zk_in 494 (by decide +kernel) (by decide +kernel)
theorem ml_X4_200 : Cond.methodLink RX4 200 yX4_comesWithChange ∈ zk_tb := zk_in 498 (by decide +kernel) (by decide +kernel)
theorem ml_X4_291 : Cond.methodLink RX4 291 yX2_becomes ∈ zk_tb := zk_in 502 (by decide +kernel) (by decide +kernel)
theorem ml_X4_293 : Cond.methodLink RX4 293 yX2_change ∈ zk_tb := zk_in 503 (by decide +kernel) (by decide +kernel)
theorem ml_L_97 : Cond.methodLink RL 97 yX4_cut ∈ zk_tb := zk_in 504 (by decide +kernel) (by decide +kernel)
theorem ml_L_101 : Cond.methodLink RL 101 yX4_inn ∈ zk_tb := zk_in 508 (by decide +kernel) (by decide +kernel)
theorem ml_X4_204 : Cond.methodLink RX4 204 yX4_noteGuests ∈ zk_tb := zk_in 512 (by decide +kernel) (by decide +kernel)
theorem ml_L_105 : Cond.methodLink RL 105 yX4_busiest ∈ zk_tb := zk_in 516 (by decide +kernel) (by decide +kernel)
theorem ml_L_109 : Cond.methodLink RL 109 yX4_near ∈ zk_tb := zk_in 520 (by decide +kernel) (by decide +kernel)
theorem ml_L_113 : Cond.methodLink RL 113 yX4_apart ∈ zk_tb := zk_in 524 (by decide +kernel) (by decide +kernel)
theorem ml_X4_210 : Cond.methodLink RX4 210 yX2_mostSteps ∈ zk_tb := zk_in 528 (by decide +kernel) (by decide +kernel)
theorem ml_X2_37 : Cond.methodLink RX2 37 Lib.Math.max.name ∈ zk_tb := zk_in 532 (by decide +kernel) (by decide +kernel)
theorem ml_X4_213 : Cond.methodLink RX4 213 yX2_farBits ∈ zk_tb := zk_in 535 (by decide +kernel) (by decide +kernel)
theorem ml_X2_43 : Cond.methodLink RX2 43 yX2_stepsBetween ∈ zk_tb := zk_in 539 (by decide +kernel) (by decide +kernel)
theorem ml_X4_216 : Cond.methodLink RX4 216 yX0_honestBits ∈ zk_tb := zk_in 540 (by decide +kernel) (by decide +kernel)
theorem ml_X4_219 : Cond.methodLink RX4 219 yX0_lostBits ∈ zk_tb := zk_in 544 (by decide +kernel) (by decide +kernel)
theorem ml_X0_75 : Cond.methodLink RX0 75 yX1_stepsToGo ∈ zk_tb := zk_in 548 (by decide +kernel) (by decide +kernel)
theorem ml_L_117 : Cond.methodLink RL 117 yX4_tired ∈ zk_tb := zk_in 552 (by decide +kernel) (by decide +kernel)
theorem ml_L_121 : Cond.methodLink RL 121 yX4_truly ∈ zk_tb := zk_in 556 (by decide +kernel) (by decide +kernel)
theorem ml_X4_222 : Cond.methodLink RX4 222 yX1_wearIron ∈ zk_tb := zk_in 560 (by decide +kernel) (by decide +kernel)
theorem ml_L_125 : Cond.methodLink RL 125 yX4_total ∈ zk_tb := zk_in 561 (by decide +kernel) (by decide +kernel)
theorem ml_X4_225 : Cond.methodLink RX4 225 yX4_totalWithBare ∈ zk_tb := zk_in 565 (by decide +kernel) (by decide +kernel)
theorem ml_X4_263 : Cond.methodLink RX4 263 yX1_stepsToGo ∈ zk_tb := zk_in 569 (by decide +kernel) (by decide +kernel)
theorem ml_L_129 : Cond.methodLink RL 129 yX4_bare ∈ zk_tb := zk_in 570 (by decide +kernel) (by decide +kernel)
theorem ml_L_133 : Cond.methodLink RL 133 yX4_two ∈ zk_tb := zk_in 574 (by decide +kernel) (by decide +kernel)
theorem ml_X4_228 : Cond.methodLink RX4 228 yX4_costOfChoice ∈ zk_tb := zk_in 578 (by decide +kernel) (by decide +kernel)
theorem ml_X4_297 : Cond.methodLink RX4 297 yX1_shoeAnew ∈ zk_tb := zk_in 582 (by decide +kernel) (by decide +kernel)
theorem ml_L_137 : Cond.methodLink RL 137 yX4_mud ∈ zk_tb := zk_in 583 (by decide +kernel) (by decide +kernel)
theorem ml_X4_231 : Cond.methodLink RX4 231 yX4_refuseLong ∈ zk_tb := zk_in 587 (by decide +kernel) (by decide +kernel)
theorem ct_X4_289 : Cond.constantLong RX4 289 (4000000000000000000 : Int64) ∈ zk_tb := zk_in 591 (by decide +kernel) (by decide +kernel)
theorem ml_X4_235 : Cond.methodLink RX4 235 yX4_startChances ∈ zk_tb := zk_in 592 (by decide +kernel) (by decide +kernel)
theorem ml_X4_238 : Cond.methodLink RX4 238 yX4_spreadChances ∈ zk_tb := zk_in 596 (by decide +kernel) (by decide +kernel)
theorem ml_X4_299 : Cond.methodLink RX4 299 yX1_nextFrom ∈ zk_tb := zk_in 600 (by decide +kernel) (by decide +kernel)
theorem ml_X4_241 : Cond.methodLink RX4 241 yX4_partOfFraction ∈ zk_tb := zk_in 601 (by decide +kernel) (by decide +kernel)
theorem ml_X4_302 : Cond.methodLink RX4 302 yX4_greatestDivisor ∈ zk_tb := zk_in 604 (by decide +kernel) (by decide +kernel)
theorem ml_L_142 : Cond.methodLink RL 142 yX4_mean ∈ zk_tb := zk_in 607 (by decide +kernel) (by decide +kernel)
theorem ml_X4_245 : Cond.methodLink RX4 245 yX0_allShoes ∈ zk_tb := zk_in 611 (by decide +kernel) (by decide +kernel)
theorem ml_L_147 : Cond.methodLink RL 147 yX4_whatWanted ∈ zk_tb := zk_in 615 (by decide +kernel) (by decide +kernel)
theorem ml_X4_248 : Cond.methodLink RX4 248 yX4_mindFollowsRow ∈ zk_tb := zk_in 619 (by decide +kernel) (by decide +kernel)
theorem ml_L_151 : Cond.methodLink RL 151 yX4_row ∈ zk_tb := zk_in 623 (by decide +kernel) (by decide +kernel)
theorem ml_L_155 : Cond.methodLink RL 155 yX4_judge ∈ zk_tb := zk_in 627 (by decide +kernel) (by decide +kernel)
theorem ml_X4_254 : Cond.methodLink RX4 254 yX4_firstWrongInRow ∈ zk_tb := zk_in 631 (by decide +kernel) (by decide +kernel)
theorem ml_L_159 : Cond.methodLink RL 159 yX4_clear ∈ zk_tb := zk_in 635 (by decide +kernel) (by decide +kernel)
theorem ml_L_163 : Cond.methodLink RL 163 yX4_lots ∈ zk_tb := zk_in 639 (by decide +kernel) (by decide +kernel)
theorem ml_X4_257 : Cond.methodLink RX4 257 yX4_nextSeed ∈ zk_tb := zk_in 643 (by decide +kernel) (by decide +kernel)
theorem ct_X4_306 : Cond.constant RX4 306 (1664525 : Int32) ∈ zk_tb := zk_in 646 (by decide +kernel) (by decide +kernel)
theorem ct_X4_307 : Cond.constant RX4 307 (1013904223 : Int32) ∈ zk_tb := zk_in 647 (by decide +kernel) (by decide +kernel)
theorem ml_X4_260 : Cond.methodLink RX4 260 yX4_drawn ∈ zk_tb := zk_in 648 (by decide +kernel) (by decide +kernel)
theorem ct_X4_308 : Cond.constant RX4 308 (2147483647 : Int32) ∈ zk_tb := zk_in 651 (by decide +kernel) (by decide +kernel)
theorem ml_L_167 : Cond.methodLink RL 167 yX4_image ∈ zk_tb := zk_in 652 (by decide +kernel) (by decide +kernel)
theorem ml_L_171 : Cond.methodLink RL 171 yX4_on ∈ zk_tb := zk_in 656 (by decide +kernel) (by decide +kernel)
theorem ml_L_175 : Cond.methodLink RL 175 yX4_count ∈ zk_tb := zk_in 660 (by decide +kernel) (by decide +kernel)
theorem ml_X4_277 : Cond.methodLink RX4 277 yX2_roadCount ∈ zk_tb := zk_in 664 (by decide +kernel) (by decide +kernel)
theorem ml_X2_31 : Cond.methodLink RX2 31 yJ6_bitCount_0f7a4 ∈ zk_tb := zk_in 668 (by decide +kernel) (by decide +kernel)
theorem ml_X4_280 : Cond.methodLink RX4 280 yX0_allWorn ∈ zk_tb := zk_in 669 (by decide +kernel) (by decide +kernel)
theorem ml_X4_286 : Cond.methodLink RX4 286 yX4_refusalCount ∈ zk_tb := zk_in 673 (by decide +kernel) (by decide +kernel)
theorem ml_L_12 : Cond.methodLink RL 12 yX5_init ∈ zk_tb := zk_in 679 (by decide +kernel) (by decide +kernel)
theorem ml_X5_1 : Cond.methodLink RX5 1 objectInit ∈ zk_tb := zk_in 682 (by decide +kernel) (by decide +kernel)
theorem fl_X5_9 : zk_FL RX5 9 5 0 := ⟨_, _, _, rfl, by decide, rfl, zk_u5, zk_in 683 (by decide +kernel) (by decide +kernel)⟩
theorem fl_X5_13 : zk_FL RX5 13 5 1 := ⟨_, _, _, rfl, by decide, rfl, zk_u5, zk_in 684 (by decide +kernel) (by decide +kernel)⟩
theorem fl_X5_16 : zk_FL RX5 16 5 2 := ⟨_, _, _, rfl, by decide, rfl, zk_u5, zk_in 685 (by decide +kernel) (by decide +kernel)⟩
theorem fl_X5_19 : zk_FL RX5 19 5 3 := ⟨_, _, _, rfl, by decide, rfl, zk_u5, zk_in 686 (by decide +kernel) (by decide +kernel)⟩
theorem fl_X5_22 : zk_FL RX5 22 5 4 := ⟨_, _, _, rfl, by decide, rfl, zk_u5, zk_in 687 (by decide +kernel) (by decide +kernel)⟩
theorem fl_X5_212 : zk_FL RX5 212 5 5 := ⟨_, _, _, rfl, by decide, rfl, zk_u5, zk_in 688 (by decide +kernel) (by decide +kernel)⟩
theorem fl_X5_25 : zk_FL RX5 25 5 6 := ⟨_, _, _, rfl, by decide, rfl, zk_u5, zk_in 689 (by decide +kernel) (by decide +kernel)⟩
theorem fl_X5_28 : zk_FL RX5 28 5 7 := ⟨_, _, _, rfl, by decide, rfl, zk_u5, zk_in 690 (by decide +kernel) (by decide +kernel)⟩
theorem fl_X5_31 : zk_FL RX5 31 5 8 := ⟨_, _, _, rfl, by decide, rfl, zk_u5, zk_in 691 (by decide +kernel) (by decide +kernel)⟩
theorem fl_X5_83 : zk_FL RX5 83 5 9 := ⟨_, _, _, rfl, by decide, rfl, zk_u5, zk_in 692 (by decide +kernel) (by decide +kernel)⟩
theorem fl_X5_200 : zk_FL RX5 200 5 10 := ⟨_, _, _, rfl, by decide, rfl, zk_u5, zk_in 693 (by decide +kernel) (by decide +kernel)⟩
theorem fl_X5_87 : zk_FL RX5 87 5 11 := ⟨_, _, _, rfl, by decide, rfl, zk_u5, zk_in 694 (by decide +kernel) (by decide +kernel)⟩
theorem fl_X5_34 : zk_FL RX5 34 5 12 := ⟨_, _, _, rfl, by decide, rfl, zk_u5, zk_in 695 (by decide +kernel) (by decide +kernel)⟩
theorem fl_X5_37 : zk_FL RX5 37 5 13 := ⟨_, _, _, rfl, by decide, rfl, zk_u5, zk_in 696 (by decide +kernel) (by decide +kernel)⟩
theorem fl_X5_203 : zk_FL RX5 203 5 14 := ⟨_, _, _, rfl, by decide, rfl, zk_u5, zk_in 697 (by decide +kernel) (by decide +kernel)⟩
theorem ml_L_17 : Cond.methodLink RL 17 yX5_letter ∈ zk_tb := zk_in 729 (by decide +kernel) (by decide +kernel)
theorem ml_X5_42 : Cond.methodLink RX5 42 yX5_no ∈ zk_tb := zk_in 733 (by decide +kernel) (by decide +kernel)
theorem ml_L_22 : Cond.methodLink RL 22 yX5_county ∈ zk_tb := zk_in 737 (by decide +kernel) (by decide +kernel)
theorem ml_X5_124 : Cond.methodLink RX5 124 yX5_readsStatement ∈ zk_tb := zk_in 741 (by decide +kernel) (by decide +kernel)
theorem ml_X5_90 : Cond.methodLink RX5 90 yX5_here ∈ zk_tb := zk_in 745 (by decide +kernel) (by decide +kernel)
theorem ml_X5_97 : Cond.methodLink RX5 97 yX5_readsNumber ∈ zk_tb := zk_in 749 (by decide +kernel) (by decide +kernel)
theorem ml_X5_46 : Cond.methodLink RX5 46 yX5_isIn ∈ zk_tb := zk_in 753 (by decide +kernel) (by decide +kernel)
theorem ml_X5_100 : Cond.methodLink RX5 100 yX5_readsKind ∈ zk_tb := zk_in 756 (by decide +kernel) (by decide +kernel)
theorem ml_X5_94 : Cond.methodLink RX5 94 yX5_kindBy ∈ zk_tb := zk_in 760 (by decide +kernel) (by decide +kernel)
theorem ml_X5_127 : Cond.methodLink RX5 127 yX5_copies ∈ zk_tb := zk_in 763 (by decide +kernel) (by decide +kernel)
theorem ml_X5_131 : Cond.methodLink RX5 131 yX5_isDone ∈ zk_tb := zk_in 766 (by decide +kernel) (by decide +kernel)
theorem ml_X5_104 : Cond.methodLink RX5 104 yX5_isPlace ∈ zk_tb := zk_in 770 (by decide +kernel) (by decide +kernel)
theorem ml_X5_111 : Cond.methodLink RX5 111 yX5_turnsRoad ∈ zk_tb := zk_in 773 (by decide +kernel) (by decide +kernel)
theorem ml_X5_115 : Cond.methodLink RX5 115 yX5_addsRider ∈ zk_tb := zk_in 776 (by decide +kernel) (by decide +kernel)
theorem ml_X5_58 : Cond.methodLink RX5 58 yX5_of ∈ zk_tb := zk_in 780 (by decide +kernel) (by decide +kernel)
theorem ml_X5_108 : Cond.methodLink RX5 108 yX5_isShod ∈ zk_tb := zk_in 783 (by decide +kernel) (by decide +kernel)
theorem ml_X5_80 : Cond.methodLink RX5 80 yX5_shoesBy ∈ zk_tb := zk_in 786 (by decide +kernel) (by decide +kernel)
theorem ml_X5_118 : Cond.methodLink RX5 118 yX5_isRider ∈ zk_tb := zk_in 789 (by decide +kernel) (by decide +kernel)
theorem ml_X5_121 : Cond.methodLink RX5 121 yX5_daysOn ∈ zk_tb := zk_in 793 (by decide +kernel) (by decide +kernel)
theorem ml_X5_72 : Cond.methodLink RX5 72 yX5_measures ∈ zk_tb := zk_in 797 (by decide +kernel) (by decide +kernel)
theorem ml_X5_50 : Cond.methodLink RX5 50 yX5_has ∈ zk_tb := zk_in 801 (by decide +kernel) (by decide +kernel)
theorem ml_X5_54 : Cond.methodLink RX5 54 yX5_least ∈ zk_tb := zk_in 804 (by decide +kernel) (by decide +kernel)
theorem ml_X5_76 : Cond.methodLink RX5 76 yX5_day ∈ zk_tb := zk_in 807 (by decide +kernel) (by decide +kernel)
theorem ml_X5_65 : Cond.methodLink RX5 65 yX5_daysBy ∈ zk_tb := zk_in 811 (by decide +kernel) (by decide +kernel)
theorem ml_X5_68 : Cond.methodLink RX5 68 yX5_goes ∈ zk_tb := zk_in 814 (by decide +kernel) (by decide +kernel)
theorem ml_X5_61 : Cond.methodLink RX5 61 yX5_pull ∈ zk_tb := zk_in 818 (by decide +kernel) (by decide +kernel)
theorem ml_L_27 : Cond.methodLink RL 27 yX5_rider ∈ zk_tb := zk_in 822 (by decide +kernel) (by decide +kernel)
theorem ml_L_31 : Cond.methodLink RL 31 yX5_steps ∈ zk_tb := zk_in 826 (by decide +kernel) (by decide +kernel)
theorem ml_L_35 : Cond.methodLink RL 35 yX5_pulls ∈ zk_tb := zk_in 830 (by decide +kernel) (by decide +kernel)
theorem ml_L_39 : Cond.methodLink RL 39 yX5_roads ∈ zk_tb := zk_in 834 (by decide +kernel) (by decide +kernel)
theorem ml_L_43 : Cond.methodLink RL 43 yX5_shod ∈ zk_tb := zk_in 838 (by decide +kernel) (by decide +kernel)
theorem ml_L_47 : Cond.methodLink RL 47 yX5_wants ∈ zk_tb := zk_in 842 (by decide +kernel) (by decide +kernel)
theorem ml_X5_134 : Cond.methodLink RX5 134 yX5_sets ∈ zk_tb := zk_in 846 (by decide +kernel) (by decide +kernel)
theorem ml_L_51 : Cond.methodLink RL 51 yX5_stands ∈ zk_tb := zk_in 850 (by decide +kernel) (by decide +kernel)
theorem ml_L_56 : Cond.methodLink RL 56 yX5_turn ∈ zk_tb := zk_in 854 (by decide +kernel) (by decide +kernel)
theorem ml_X5_138 : Cond.methodLink RX5 138 yX5_wrongBy ∈ zk_tb := zk_in 858 (by decide +kernel) (by decide +kernel)
theorem ml_L_60 : Cond.methodLink RL 60 yX5_days ∈ zk_tb := zk_in 861 (by decide +kernel) (by decide +kernel)
theorem ml_X5_141 : Cond.methodLink RX5 141 yX5_atSaid ∈ zk_tb := zk_in 865 (by decide +kernel) (by decide +kernel)
theorem ml_X5_145 : Cond.methodLink RX5 145 yX5_bits ∈ zk_tb := zk_in 868 (by decide +kernel) (by decide +kernel)
theorem ml_L_64 : Cond.methodLink RL 64 yX5_riderThen ∈ zk_tb := zk_in 871 (by decide +kernel) (by decide +kernel)
theorem ml_X5_148 : Cond.methodLink RX5 148 yX5_takes ∈ zk_tb := zk_in 875 (by decide +kernel) (by decide +kernel)
theorem ml_L_68 : Cond.methodLink RL 68 yX5_comes ∈ zk_tb := zk_in 879 (by decide +kernel) (by decide +kernel)
theorem ml_X5_155 : Cond.methodLink RX5 155 yX5_areWrong ∈ zk_tb := zk_in 883 (by decide +kernel) (by decide +kernel)
theorem ml_X5_158 : Cond.methodLink RX5 158 yX5_comesNow ∈ zk_tb := zk_in 887 (by decide +kernel) (by decide +kernel)
theorem ml_X5_152 : Cond.methodLink RX5 152 yX5_comesIn ∈ zk_tb := zk_in 891 (by decide +kernel) (by decide +kernel)
theorem ml_L_72 : Cond.methodLink RL 72 yX5_first ∈ zk_tb := zk_in 895 (by decide +kernel) (by decide +kernel)
theorem ml_X5_161 : Cond.methodLink RX5 161 yX5_orNever ∈ zk_tb := zk_in 899 (by decide +kernel) (by decide +kernel)
theorem ml_L_76 : Cond.methodLink RL 76 yX5_rests ∈ zk_tb := zk_in 902 (by decide +kernel) (by decide +kernel)
theorem ml_X5_164 : Cond.methodLink RX5 164 yX5_isResting ∈ zk_tb := zk_in 906 (by decide +kernel) (by decide +kernel)
theorem ml_L_80 : Cond.methodLink RL 80 yX5_meet ∈ zk_tb := zk_in 910 (by decide +kernel) (by decide +kernel)
theorem ml_L_84 : Cond.methodLink RL 84 yX5_arrived ∈ zk_tb := zk_in 914 (by decide +kernel) (by decide +kernel)
theorem ml_L_88 : Cond.methodLink RL 88 yX5_shoe ∈ zk_tb := zk_in 918 (by decide +kernel) (by decide +kernel)
theorem ml_L_92 : Cond.methodLink RL 92 yX5_wish ∈ zk_tb := zk_in 922 (by decide +kernel) (by decide +kernel)
theorem ml_L_96 : Cond.methodLink RL 96 yX5_road ∈ zk_tb := zk_in 926 (by decide +kernel) (by decide +kernel)
theorem ml_X5_167 : Cond.methodLink RX5 167 yX5_comesTurned ∈ zk_tb := zk_in 930 (by decide +kernel) (by decide +kernel)
theorem ml_L_100 : Cond.methodLink RL 100 yX5_cut ∈ zk_tb := zk_in 934 (by decide +kernel) (by decide +kernel)
theorem ml_L_104 : Cond.methodLink RL 104 yX5_inn ∈ zk_tb := zk_in 938 (by decide +kernel) (by decide +kernel)
theorem ml_L_108 : Cond.methodLink RL 108 yX5_busiest ∈ zk_tb := zk_in 942 (by decide +kernel) (by decide +kernel)
theorem ml_L_112 : Cond.methodLink RL 112 yX5_near ∈ zk_tb := zk_in 946 (by decide +kernel) (by decide +kernel)
theorem ml_L_116 : Cond.methodLink RL 116 yX5_apart ∈ zk_tb := zk_in 950 (by decide +kernel) (by decide +kernel)
theorem ml_X5_171 : Cond.methodLink RX5 171 yX5_mostApart ∈ zk_tb := zk_in 954 (by decide +kernel) (by decide +kernel)
theorem ml_L_120 : Cond.methodLink RL 120 yX5_tired ∈ zk_tb := zk_in 958 (by decide +kernel) (by decide +kernel)
theorem ml_L_124 : Cond.methodLink RL 124 yX5_truly ∈ zk_tb := zk_in 962 (by decide +kernel) (by decide +kernel)
theorem ml_L_128 : Cond.methodLink RL 128 yX5_total ∈ zk_tb := zk_in 966 (by decide +kernel) (by decide +kernel)
theorem ml_X5_178 : Cond.methodLink RX5 178 yX5_totalIn ∈ zk_tb := zk_in 970 (by decide +kernel) (by decide +kernel)
theorem ml_X5_174 : Cond.methodLink RX5 174 yX5_stepsLeft ∈ zk_tb := zk_in 974 (by decide +kernel) (by decide +kernel)
theorem ml_L_132 : Cond.methodLink RL 132 yX5_bare ∈ zk_tb := zk_in 978 (by decide +kernel) (by decide +kernel)
theorem ml_L_136 : Cond.methodLink RL 136 yX5_two ∈ zk_tb := zk_in 982 (by decide +kernel) (by decide +kernel)
theorem ml_X5_181 : Cond.methodLink RX5 181 yX5_costBy ∈ zk_tb := zk_in 986 (by decide +kernel) (by decide +kernel)
theorem ml_L_141 : Cond.methodLink RL 141 yX5_mud ∈ zk_tb := zk_in 990 (by decide +kernel) (by decide +kernel)
theorem ml_X5_189 : Cond.methodLink RX5 189 yX5_noWide ∈ zk_tb := zk_in 994 (by decide +kernel) (by decide +kernel)
theorem ct_X5_40 : Cond.constantLong RX5 40 (4000000000000000000 : Int64) ∈ zk_tb := zk_in 998 (by decide +kernel) (by decide +kernel)
theorem ml_X5_193 : Cond.methodLink RX5 193 yX5_partOf ∈ zk_tb := zk_in 999 (by decide +kernel) (by decide +kernel)
theorem ml_X5_185 : Cond.methodLink RX5 185 yX5_gcd ∈ zk_tb := zk_in 1002 (by decide +kernel) (by decide +kernel)
theorem ml_L_146 : Cond.methodLink RL 146 yX5_mean ∈ zk_tb := zk_in 1005 (by decide +kernel) (by decide +kernel)
theorem ml_X5_197 : Cond.methodLink RX5 197 yX5_sum ∈ zk_tb := zk_in 1009 (by decide +kernel) (by decide +kernel)
theorem ml_L_150 : Cond.methodLink RL 150 yX5_whatWanted ∈ zk_tb := zk_in 1013 (by decide +kernel) (by decide +kernel)
theorem ml_L_154 : Cond.methodLink RL 154 yX5_row ∈ zk_tb := zk_in 1017 (by decide +kernel) (by decide +kernel)
theorem ml_L_158 : Cond.methodLink RL 158 yX5_judge ∈ zk_tb := zk_in 1021 (by decide +kernel) (by decide +kernel)
theorem ml_L_162 : Cond.methodLink RL 162 yX5_clear ∈ zk_tb := zk_in 1025 (by decide +kernel) (by decide +kernel)
theorem ml_L_166 : Cond.methodLink RL 166 yX5_lots ∈ zk_tb := zk_in 1029 (by decide +kernel) (by decide +kernel)
theorem ml_X5_209 : Cond.methodLink RX5 209 yX5_drawn ∈ zk_tb := zk_in 1033 (by decide +kernel) (by decide +kernel)
theorem ct_X5_206 : Cond.constant RX5 206 (1664525 : Int32) ∈ zk_tb := zk_in 1037 (by decide +kernel) (by decide +kernel)
theorem ct_X5_207 : Cond.constant RX5 207 (1013904223 : Int32) ∈ zk_tb := zk_in 1038 (by decide +kernel) (by decide +kernel)
theorem ct_X5_208 : Cond.constant RX5 208 (2147483647 : Int32) ∈ zk_tb := zk_in 1039 (by decide +kernel) (by decide +kernel)
theorem ml_L_170 : Cond.methodLink RL 170 yX5_image ∈ zk_tb := zk_in 1040 (by decide +kernel) (by decide +kernel)
theorem ml_L_174 : Cond.methodLink RL 174 yX5_on ∈ zk_tb := zk_in 1044 (by decide +kernel) (by decide +kernel)
theorem ml_L_178 : Cond.methodLink RL 178 yX5_count ∈ zk_tb := zk_in 1048 (by decide +kernel) (by decide +kernel)
end
section
theorem zb_8 : (Int8.ofInt 8).toInt32 = (8 : Int32) := by decide +kernel
theorem zc_0 : Int32.ofInt 0 = (0 : Int32) := by decide +kernel
theorem zc_1 : Int32.ofInt 1 = (1 : Int32) := by decide +kernel
theorem zc_2 : Int32.ofInt 2 = (2 : Int32) := by decide +kernel
theorem zc_3 : Int32.ofInt 3 = (3 : Int32) := by decide +kernel
theorem zc_4 : Int32.ofInt 4 = (4 : Int32) := by decide +kernel

/-! the words of the specification: a rider's record f (kind, figure, wants, says, at, shoes, worn), roads J (bits), steps T -/
abbrev zs_p (x : Int32) : Prop := 0 ≤ x ∧ x < 8
def zs_for {α : Type} (f : Nat → α → α) : Nat → Nat → α → α
  | 0, _, s => s
  | n + 1, i, s => zs_for f n (i + 1) (f i s)
def zs_a (σ : zk_Sh) (o n : Nat) : Prop := o < σ.1 ∧ σ.2.1 o = 100 ∧ σ.2.2.1 o = n
def zs_h (σ : zk_Sh) (h : Nat) : Prop := h < σ.1 ∧ σ.2.1 h = 1
def zs_r (σ : zk_Sh) (n : Nat) : Prop := n < σ.1 ∧ σ.2.1 n = 2 ∧ zs_a σ (σ.2.2.2 n 0) 8 ∧ zs_a σ (σ.2.2.2 n 1) 64 ∧ σ.2.2.2 n 0 ≠ σ.2.2.2 n 1
def zs_sk (k : Int32) : Int32 := if k = 0 then 4 else if k = 1 then 1 else if k = 2 then 3 else if k = 4 then 2 else if k = 5 then 3 else 0
def zs_dk (k f : Int32) : Int32 := if k = 0 then f / 3 + 1 else if k = 1 then f / 3 + 1 else if k = 2 then (f / 3 + 1) / 2 + 1 else if k = 4 then 2 * (f / 3 + 1) else if k = 5 then (f / 3 + 1) / 2 + 1 + 1 else 0
def zs_w (x : Int32) : Int32 := if (99 : Int32) < x + 1 then 99 else x + 1
def zs_wear (f : Nat → Int32) : Nat → Int32 := if 0 < zs_dk (f 0) (f 1) ∧ zs_w (f 6) - zs_w (f 6) / zs_dk (f 0) (f 1) * zs_dk (f 0) (f 1) = 0 ∧ 0 < f 5 then va_up (va_up f 6 (zs_w (f 6))) 5 (f 5 - 1) else va_up f 6 (zs_w (f 6))
def zs_pull (T f : Nat → Int32) (a : Int32) : Int32 := f 5 * T (a * 8 + f 2).toNatClampNeg + (4 - f 5) * T (a * 8 + f 3).toNatClampNeg
abbrev zs_j (J : Nat → Int32) (a b : Int32) : Prop := J a.toNatClampNeg >>> (b &&& 31) &&& 1 = 1
def zs_nx (J T f : Nat → Int32) (a : Int32) : Nat → Nat → Int32 → Int32 := fun n i b => zs_for (fun c b => if zs_j J a (nI c) ∧ zs_pull T f (nI c) < zs_pull T f b then nI c else b) n i b
def zs_ride (J T f : Nat → Int32) : Nat → Int32 := va_up (zs_wear f) 4 (zs_nx J T (zs_wear f) (zs_wear f 4) 8 0 (zs_wear f 4))
def zs_rides (J T : Nat → Int32) : Nat → (Nat → Int32) → Nat → Int32
  | 0, f => f
  | n + 1, f => zs_rides J T n (zs_ride J T f)
/-- behind how many days he is at p, counting from day: and his record then -/
def zs_until (J T : Nat → Int32) (p : Int32) : Nat → Nat → (Nat → Int32) → Int32 × (Nat → Int32)
  | 0, _, f => (61, f)
  | n + 1, day, f => if f 4 = p then (nI day, f) else zs_until J T p n (day + 1) (zs_ride J T f)
def zs_d0 (J : Nat → Int32) (a b : Nat) : Int32 := if a = b then 0 else if zs_j J (nI a) (nI b) then 1 else 9
def zs_min (x y : Int32) : Int32 := if y < x then y else x
def zs_fw1 (J T : Nat → Int32) : Nat → Int32 := zs_for (fun a T => zs_for (fun b T => va_up T (a * 8 + b) (zs_d0 J a b)) 8 0 T) 8 0 T
def zs_fw2 (T : Nat → Int32) : Nat → Int32 := zs_for (fun k T => zs_for (fun a T => zs_for (fun b T => va_up T (a * 8 + b) (zs_min (T (a * 8 + b)) (T (a * 8 + k) + T (k * 8 + b)))) 8 0 T) 8 0 T) 8 0 T
def zs_fw (J T : Nat → Int32) : Nat → Int32 := zs_fw2 (zs_fw1 J T)
def zs_cp (n : Nat) (f g : Nat → Int32) : Nat → Int32 := fun i => if i < n then f i else g i
abbrev zs_ok (f : Nat → Int32) : Prop := zs_p (f 2) ∧ zs_p (f 3) ∧ zs_p (f 4)
theorem zs_up2 {α : Type} {f : Nat → α} {k : Nat} {u v : α} : va_up (va_up f k u) k v = va_up f k v := by funext j; simp only [va_up]; split <;> rfl
theorem zs_up_self {α : Type} {f : Nat → α} {k : Nat} : va_up f k (f k) = f := by
  funext j
  simp only [va_up]
  split
  · next h => rw [h]
  · rfl
theorem zs_p_nI {i : Nat} (h : i < 8) : zs_p (nI i) := ⟨nI_pos' (by omega), nI_lt h (by decide)⟩
theorem zs_pin {x : Int32} (h : zs_p x) : vp_in x 8 := vp_in_iff.mpr ⟨by simpa [Int32.le_iff_toInt_le] using h.1, by simpa [Int32.lt_iff_toInt_lt] using h.2⟩
theorem zs_p_of {x : Int32} (h : zs_p x) : ∃ i, i < 8 ∧ x = nI i := vp_in_of (zs_pin h) (by decide)
theorem zs_ix {a b : Nat} (ha : a < 8) (hb : b < 8) : nI a * 8 + nI b = nI (a * 8 + b) := by
  rcases (show a = 0 ∨ a = 1 ∨ a = 2 ∨ a = 3 ∨ a = 4 ∨ a = 5 ∨ a = 6 ∨ a = 7 by omega) with rfl | rfl | rfl | rfl | rfl | rfl | rfl | rfl <;> rcases (show b = 0 ∨ b = 1 ∨ b = 2 ∨ b = 3 ∨ b = 4 ∨ b = 5 ∨ b = 6 ∨ b = 7 by omega) with rfl | rfl | rfl | rfl | rfl | rfl | rfl | rfl <;> decide +kernel
theorem zs_ix64 {a b : Int32} (ha : zs_p a) (hb : zs_p b) : vp_in (a * 8 + b) 64 := by
  obtain ⟨i, hi, rfl⟩ := zs_p_of ha
  obtain ⟨j, hj, rfl⟩ := zs_p_of hb
  rw [zs_ix hi hj]
  exact vp_in_nI (by omega) (by decide)
theorem zs_nlt0 {x : Int32} (h : 0 ≤ x) : ¬ x < 0 := Int32.not_lt.mpr h
theorem zs_nge {x y : Int32} (h : x < y) : ¬ y ≤ x := Int32.not_le.mpr h
theorem zs_out05 {x : Int32} (h0 : ¬ x = 0) (h1 : ¬ x = 1) (h2 : ¬ x = 2) (h3 : ¬ x = 3) (h4 : ¬ x = 4) (h5 : ¬ x = 5) : x.toInt < 0 ∨ 5 < x.toInt := by
  simp only [← Int32.toInt_inj] at *
  have e0 : (0 : Int32).toInt = 0 := rfl
  have e1 : (1 : Int32).toInt = 1 := rfl
  have e2 : (2 : Int32).toInt = 2 := rfl
  have e3 : (3 : Int32).toInt = 3 := rfl
  have e4 : (4 : Int32).toInt = 4 := rfl
  have e5 : (5 : Int32).toInt = 5 := rfl
  omega
theorem zk_Ei_of {v w : Int32} {M M' : zk_M} {L L' : zk_L} (h : v = w) (hM : M = M') (hL : L = L') : zk_Ei w M' L' (some (.int v)) M L := ⟨by rw [h], hM, hL⟩
theorem zk_Ev_of {M M' : zk_M} {L L' : zk_L} (hM : M = M') (hL : L = L') : zk_Ev M' L' none M L := ⟨rfl, hM, hL⟩

set_option maxRecDepth 100000 in
set_option maxHeartbeats 4000000 in
theorem qX4_isPlace {l : Launch} {σ : zk_Sh} {M : zk_M} {L : zk_L} {x : Int32} : zk_C l σ 0 muX4_isPlace [.int x] M L (zk_Ei (if zs_p x then 1 else 0) M L) := by
  refine zk_ofR (ls := [some (.int x)]) (by decide) rfl (Nat.le_of_ble_eq_true rfl) rfl ?_
  refine zk_iload_n dX4_isPlace_0 rfl ?_
  refine zk_if_lt (tgt := 14) dX4_isPlace_1 (by decide) (fun h1 => ?_) (fun h1 => ?_)
  · refine zk_iconst dX4_isPlace_14 zc_0 ?_
    refine zk_zret rfl (by decide) dX4_isPlace_15 ?_
    exact zk_Ei_of (by first | exact (if_pos ⟨Int32.not_lt.mp h1, Int32.not_le.mp h7⟩).symm | exact (if_neg (fun h => absurd h.1 (Int32.not_le.mpr h1))).symm | exact (if_neg (fun h => absurd h.2 (Int32.not_lt.mpr h7))).symm) rfl rfl
  · refine zk_iload_n dX4_isPlace_4 rfl ?_
    refine zk_bipush dX4_isPlace_5 zb_8 ?_
    refine zk_icmp_ge (tgt := 14) dX4_isPlace_7 (by decide) (fun h7 => ?_) (fun h7 => ?_)
    · refine zk_iconst dX4_isPlace_14 zc_0 ?_
      refine zk_zret rfl (by decide) dX4_isPlace_15 ?_
      exact zk_Ei_of (by first | exact (if_pos ⟨Int32.not_lt.mp h1, Int32.not_le.mp h7⟩).symm | exact (if_neg (fun h => absurd h.1 (Int32.not_le.mpr h1))).symm | exact (if_neg (fun h => absurd h.2 (Int32.not_lt.mpr h7))).symm) rfl rfl
    · refine zk_iconst dX4_isPlace_10 zc_1 ?_
      refine zk_goto (tgt := 15) dX4_isPlace_11 (by decide) ?_
      refine zk_zret rfl (by decide) dX4_isPlace_15 ?_
      exact zk_Ei_of (by first | exact (if_pos ⟨Int32.not_lt.mp h1, Int32.not_le.mp h7⟩).symm | exact (if_neg (fun h => absurd h.1 (Int32.not_le.mpr h1))).symm | exact (if_neg (fun h => absurd h.2 (Int32.not_lt.mpr h7))).symm) rfl rfl
set_option maxRecDepth 100000 in
set_option maxHeartbeats 4000000 in
theorem qX4_isBelow {l : Launch} {σ : zk_Sh} {M : zk_M} {L : zk_L} {x y : Int32} : zk_C l σ 0 muX4_isBelow [.int x, .int y] M L (zk_Ei (if 0 ≤ x ∧ x < y then 1 else 0) M L) := by
  refine zk_ofR (ls := [some (.int x), some (.int y)]) (by decide) rfl (Nat.le_of_ble_eq_true rfl) rfl ?_
  refine zk_iload_n dX4_isBelow_0 rfl ?_
  refine zk_if_lt (tgt := 13) dX4_isBelow_1 (by decide) (fun h1 => ?_) (fun h1 => ?_)
  · refine zk_iconst dX4_isBelow_13 zc_0 ?_
    refine zk_zret rfl (by decide) dX4_isBelow_14 ?_
    exact zk_Ei_of (by first | exact (if_pos ⟨Int32.not_lt.mp h1, Int32.not_le.mp h6⟩).symm | exact (if_neg (fun h => absurd h.1 (Int32.not_le.mpr h1))).symm | exact (if_neg (fun h => absurd h.2 (Int32.not_lt.mpr h6))).symm) rfl rfl
  · refine zk_iload_n dX4_isBelow_4 rfl ?_
    refine zk_iload_n dX4_isBelow_5 rfl ?_
    refine zk_icmp_ge (tgt := 13) dX4_isBelow_6 (by decide) (fun h6 => ?_) (fun h6 => ?_)
    · refine zk_iconst dX4_isBelow_13 zc_0 ?_
      refine zk_zret rfl (by decide) dX4_isBelow_14 ?_
      exact zk_Ei_of (by first | exact (if_pos ⟨Int32.not_lt.mp h1, Int32.not_le.mp h6⟩).symm | exact (if_neg (fun h => absurd h.1 (Int32.not_le.mpr h1))).symm | exact (if_neg (fun h => absurd h.2 (Int32.not_lt.mpr h6))).symm) rfl rfl
    · refine zk_iconst dX4_isBelow_9 zc_1 ?_
      refine zk_goto (tgt := 14) dX4_isBelow_10 (by decide) ?_
      refine zk_zret rfl (by decide) dX4_isBelow_14 ?_
      exact zk_Ei_of (by first | exact (if_pos ⟨Int32.not_lt.mp h1, Int32.not_le.mp h6⟩).symm | exact (if_neg (fun h => absurd h.1 (Int32.not_le.mpr h1))).symm | exact (if_neg (fun h => absurd h.2 (Int32.not_lt.mpr h6))).symm) rfl rfl
theorem qX4_isPlace_t {l : Launch} {σ : zk_Sh} {M : zk_M} {L : zk_L} {x : Int32} (h : zs_p x) : zk_C l σ 0 muX4_isPlace [.int x] M L (zk_Ei 1 M L) := by
  have := qX4_isPlace (l := l) (σ := σ) (M := M) (L := L) (x := x)
  rwa [if_pos h] at this
set_option maxRecDepth 100000 in
set_option maxHeartbeats 4000000 in
theorem qX4_shoesOfKind {l : Launch} {σ : zk_Sh} {M : zk_M} {L : zk_L} {k : Int32} : zk_C l σ 0 muX4_shoesOfKind [.int k] M L (zk_Ei (zs_sk k) M L) := by
  refine zk_ofR (ls := [some (.int k)]) (by decide) rfl (Nat.le_of_ble_eq_true rfl) rfl ?_
  refine zk_iload_n dX4_shoesOfKind_0 rfl ?_
  by_cases hx0 : k = 0
  · rw [hx0]
    refine zk_tabIn (off := 39) (tgt := 40) dX4_shoesOfKind_1 (by decide) (by decide) (by decide) (by decide) ?_
    refine zk_iconst dX4_shoesOfKind_40 zc_4 ?_
    refine zk_iret rfl dX4_shoesOfKind_41 ?_
    exact zk_Ei_of (by simp_all [zs_sk]) rfl rfl
  by_cases hx1 : k = 1
  · rw [hx1]
    refine zk_tabIn (off := 41) (tgt := 42) dX4_shoesOfKind_1 (by decide) (by decide) (by decide) (by decide) ?_
    refine zk_iconst dX4_shoesOfKind_42 zc_1 ?_
    refine zk_iret rfl dX4_shoesOfKind_43 ?_
    exact zk_Ei_of (by simp_all [zs_sk]) rfl rfl
  by_cases hx2 : k = 2
  · rw [hx2]
    refine zk_tabIn (off := 43) (tgt := 44) dX4_shoesOfKind_1 (by decide) (by decide) (by decide) (by decide) ?_
    refine zk_iconst dX4_shoesOfKind_44 zc_3 ?_
    refine zk_iret rfl dX4_shoesOfKind_45 ?_
    exact zk_Ei_of (by simp_all [zs_sk]) rfl rfl
  by_cases hx3 : k = 3
  · rw [hx3]
    refine zk_tabIn (off := 49) (tgt := 50) dX4_shoesOfKind_1 (by decide) (by decide) (by decide) (by decide) ?_
    refine zk_iconst dX4_shoesOfKind_50 zc_0 ?_
    refine zk_iret rfl dX4_shoesOfKind_51 ?_
    exact zk_Ei_of (by simp_all [zs_sk]) rfl rfl
  by_cases hx4 : k = 4
  · rw [hx4]
    refine zk_tabIn (off := 45) (tgt := 46) dX4_shoesOfKind_1 (by decide) (by decide) (by decide) (by decide) ?_
    refine zk_iconst dX4_shoesOfKind_46 zc_2 ?_
    refine zk_iret rfl dX4_shoesOfKind_47 ?_
    exact zk_Ei_of (by simp_all [zs_sk]) rfl rfl
  by_cases hx5 : k = 5
  · rw [hx5]
    refine zk_tabIn (off := 47) (tgt := 48) dX4_shoesOfKind_1 (by decide) (by decide) (by decide) (by decide) ?_
    refine zk_iconst dX4_shoesOfKind_48 zc_3 ?_
    refine zk_iret rfl dX4_shoesOfKind_49 ?_
    exact zk_Ei_of (by simp_all [zs_sk]) rfl rfl
  refine zk_tabOut (tgt := 50) dX4_shoesOfKind_1 (zs_out05 hx0 hx1 hx2 hx3 hx4 hx5) (by decide) ?_
  refine zk_iconst dX4_shoesOfKind_50 zc_0 ?_
  refine zk_iret rfl dX4_shoesOfKind_51 ?_
  exact zk_Ei_of (by simp_all [zs_sk]) rfl rfl
set_option maxRecDepth 100000 in
set_option maxHeartbeats 4000000 in
theorem qX4_daysOfKind {l : Launch} {σ : zk_Sh} {M : zk_M} {L : zk_L} {k f : Int32} : zk_C l σ 0 muX4_daysOfKind [.int k, .int f] M L (zk_Ei (zs_dk k f) M L) := by
  refine zk_ofR (ls := [some (.int k), some (.int f), none, none]) (by decide) rfl (Nat.le_of_ble_eq_true rfl) rfl ?_
  refine zk_iload_n dX4_daysOfKind_0 rfl ?_
  refine zk_iconst dX4_daysOfKind_1 zc_3 ?_
  refine zk_idiv dX4_daysOfKind_2 (by decide) ?_
  refine zk_iconst dX4_daysOfKind_3 zc_1 ?_
  refine zk_iadd dX4_daysOfKind_4 ?_
  refine zk_istore_n dX4_daysOfKind_5 zk_S_2 ?_
  refine zk_iload_n dX4_daysOfKind_6 rfl ?_
  refine zk_iconst dX4_daysOfKind_7 zc_2 ?_
  refine zk_idiv dX4_daysOfKind_8 (by decide) ?_
  refine zk_iconst dX4_daysOfKind_9 zc_1 ?_
  refine zk_iadd dX4_daysOfKind_10 ?_
  refine zk_istore_n dX4_daysOfKind_11 zk_S_3 ?_
  refine zk_iload_n dX4_daysOfKind_12 rfl ?_
  by_cases hx0 : k = 0
  · rw [hx0]
    refine zk_tabIn (off := 39) (tgt := 52) dX4_daysOfKind_13 (by decide) (by decide) (by decide) (by decide) ?_
    refine zk_iload_n dX4_daysOfKind_52 rfl ?_
    refine zk_iret rfl dX4_daysOfKind_53 ?_
    exact zk_Ei_of (by simp_all [zs_dk]) rfl rfl
  by_cases hx1 : k = 1
  · rw [hx1]
    refine zk_tabIn (off := 41) (tgt := 54) dX4_daysOfKind_13 (by decide) (by decide) (by decide) (by decide) ?_
    refine zk_iload_n dX4_daysOfKind_54 rfl ?_
    refine zk_iret rfl dX4_daysOfKind_55 ?_
    exact zk_Ei_of (by simp_all [zs_dk]) rfl rfl
  by_cases hx2 : k = 2
  · rw [hx2]
    refine zk_tabIn (off := 43) (tgt := 56) dX4_daysOfKind_13 (by decide) (by decide) (by decide) (by decide) ?_
    refine zk_iload_n dX4_daysOfKind_56 rfl ?_
    refine zk_iret rfl dX4_daysOfKind_57 ?_
    exact zk_Ei_of (by simp_all [zs_dk]) rfl rfl
  by_cases hx3 : k = 3
  · rw [hx3]
    refine zk_tabIn (off := 53) (tgt := 66) dX4_daysOfKind_13 (by decide) (by decide) (by decide) (by decide) ?_
    refine zk_iconst dX4_daysOfKind_66 zc_0 ?_
    refine zk_iret rfl dX4_daysOfKind_67 ?_
    exact zk_Ei_of (by simp_all [zs_dk]) rfl rfl
  by_cases hx4 : k = 4
  · rw [hx4]
    refine zk_tabIn (off := 45) (tgt := 58) dX4_daysOfKind_13 (by decide) (by decide) (by decide) (by decide) ?_
    refine zk_iconst dX4_daysOfKind_58 zc_2 ?_
    refine zk_iload_n dX4_daysOfKind_59 rfl ?_
    refine zk_imul dX4_daysOfKind_60 ?_
    refine zk_iret rfl dX4_daysOfKind_61 ?_
    exact zk_Ei_of (by simp_all [zs_dk]) rfl rfl
  by_cases hx5 : k = 5
  · rw [hx5]
    refine zk_tabIn (off := 49) (tgt := 62) dX4_daysOfKind_13 (by decide) (by decide) (by decide) (by decide) ?_
    refine zk_iload_n dX4_daysOfKind_62 rfl ?_
    refine zk_iconst dX4_daysOfKind_63 zc_1 ?_
    refine zk_iadd dX4_daysOfKind_64 ?_
    refine zk_iret rfl dX4_daysOfKind_65 ?_
    exact zk_Ei_of (by simp_all [zs_dk]) rfl rfl
  refine zk_tabOut (tgt := 66) dX4_daysOfKind_13 (zs_out05 hx0 hx1 hx2 hx3 hx4 hx5) (by decide) ?_
  refine zk_iconst dX4_daysOfKind_66 zc_0 ?_
  refine zk_iret rfl dX4_daysOfKind_67 ?_
  exact zk_Ei_of (by simp_all [zs_dk]) rfl rfl
end
section
theorem zb_60 : (Int8.ofInt 60).toInt32 = (60 : Int32) := by decide +kernel
theorem zb_99 : (Int8.ofInt 99).toInt32 = (99 : Int32) := by decide +kernel
set_option maxRecDepth 100000 in
set_option maxHeartbeats 4000000 in
theorem qX2_stepsBetween {l : Launch} {σ : zk_Sh} {M : zk_M} {L : zk_L} {n : Nat} (hn : zs_r σ n) {a b : Int32} (ha : zs_p a) (hb : zs_p b) : zk_C l σ 0 muX2_stepsBetween [.ref n, .int a, .int b] M L (zk_Ei (M (σ.2.2.2 n 1) (a * 8 + b).toNatClampNeg) M L) := by
  refine zk_ofR (ls := [some (.ref n), some (.int a), some (.int b)]) (by decide) rfl (Nat.le_of_ble_eq_true rfl) rfl ?_
  refine zk_iload_n dX2_stepsBetween_0 rfl ?_
  refine zk_if_lt (tgt := 20) dX2_stepsBetween_1 (by decide) (fun h1 => absurd h1 (zs_nlt0 ha.1)) (fun _ => ?_)
  refine zk_iload_n dX2_stepsBetween_4 rfl ?_
  refine zk_bipush dX2_stepsBetween_5 zb_8 ?_
  refine zk_icmp_ge (tgt := 20) dX2_stepsBetween_7 (by decide) (fun h7 => absurd h7 (zs_nge ha.2)) (fun _ => ?_)
  refine zk_iload_n dX2_stepsBetween_10 rfl ?_
  refine zk_if_lt (tgt := 20) dX2_stepsBetween_11 (by decide) (fun h11 => absurd h11 (zs_nlt0 hb.1)) (fun _ => ?_)
  refine zk_iload_n dX2_stepsBetween_14 rfl ?_
  refine zk_bipush dX2_stepsBetween_15 zb_8 ?_
  refine zk_icmp_lt (tgt := 23) dX2_stepsBetween_17 (by decide) (fun _ => ?_) (fun h17 => absurd (hb.2) h17)
  refine zk_aload_n dX2_stepsBetween_23 rfl ?_
  refine zk_getR dX2_stepsBetween_24 fl_X2_15 hn.1 hn.2.1 rfl ?_
  refine zk_iload_n dX2_stepsBetween_27 rfl ?_
  refine zk_bipush dX2_stepsBetween_28 zb_8 ?_
  refine zk_imul dX2_stepsBetween_30 ?_
  refine zk_iload_n dX2_stepsBetween_31 rfl ?_
  refine zk_iadd dX2_stepsBetween_32 ?_
  refine zk_iald (j := _) dX2_stepsBetween_33 hn.2.2.2.1.1 hn.2.2.2.1.2.1 (zs_in hn.2.2.2.1.2.2 (zs_ix64 ha hb)) rfl ?_
  refine zk_iret rfl dX2_stepsBetween_34 ?_
  exact ⟨rfl, rfl, rfl⟩
set_option maxRecDepth 100000 in
set_option maxHeartbeats 4000000 in
theorem qX2_joins {l : Launch} {σ : zk_Sh} {M : zk_M} {L : zk_L} {n : Nat} (hn : zs_r σ n) {a b : Int32} (ha : zs_p a) (hb : zs_p b) : zk_C l σ 1 muX2_joins [.ref n, .int a, .int b] M L (zk_Ei (if zs_j (M (σ.2.2.2 n 0)) a b then 1 else 0) M L) := by
  refine zk_ofR (ls := [some (.ref n), some (.int a), some (.int b)]) (by decide) rfl (Nat.le_of_ble_eq_true rfl) rfl ?_
  refine zk_iload_n dX2_joins_0 rfl ?_
  refine zk_cNi (qX4_isPlace_t ha) dX2_joins_1 miX4_isPlace nl_X2_27 stX4_isPlace rfl (by decide) rfl (Nat.le_of_ble_eq_true rfl) ?_
  refine zk_if_eq (tgt := 32) dX2_joins_4 (by decide) (fun h4 => absurd h4 (by decide)) (fun _ => ?_)
  refine zk_iload_n dX2_joins_7 rfl ?_
  refine zk_cNi (qX4_isPlace_t hb) dX2_joins_8 miX4_isPlace nl_X2_27 stX4_isPlace rfl (by decide) rfl (Nat.le_of_ble_eq_true rfl) ?_
  refine zk_if_eq (tgt := 32) dX2_joins_11 (by decide) (fun h11 => absurd h11 (by decide)) (fun _ => ?_)
  refine zk_aload_n dX2_joins_14 rfl ?_
  refine zk_getR dX2_joins_15 fl_X2_9 hn.1 hn.2.1 rfl ?_
  refine zk_iload_n dX2_joins_18 rfl ?_
  refine zk_iald (j := _) dX2_joins_19 hn.2.2.1.1 hn.2.2.1.2.1 (zs_in hn.2.2.1.2.2 (zs_pin ha)) rfl ?_
  refine zk_iload_n dX2_joins_20 rfl ?_
  refine zk_ishr dX2_joins_21 ?_
  refine zk_iconst dX2_joins_22 zc_1 ?_
  refine zk_iand dX2_joins_23 ?_
  refine zk_iconst dX2_joins_24 zc_1 ?_
  refine zk_icmp_ne (tgt := 32) dX2_joins_25 (by decide) (fun h25 => ?_) (fun h25 => ?_)
  · refine zk_iconst dX2_joins_32 zc_0 ?_
    refine zk_zret rfl (by decide) dX2_joins_33 ?_
    exact zk_Ei_of (by first | exact (if_pos h25).symm | exact (if_neg h25).symm) rfl rfl
  · refine zk_iconst dX2_joins_28 zc_1 ?_
    refine zk_goto (tgt := 33) dX2_joins_29 (by decide) ?_
    refine zk_zret rfl (by decide) dX2_joins_33 ?_
    exact zk_Ei_of (by first | exact (if_pos h25).symm | exact (if_neg h25).symm) rfl rfl
set_option maxRecDepth 100000 in
set_option maxHeartbeats 4000000 in
theorem qX1_becomes {l : Launch} {σ : zk_Sh} {M : zk_M} {L : zk_L} {h : Nat} (hh : zs_h σ h) {g : Nat} (hg : zs_h σ g) (hne : g ≠ h) : zk_C l σ 0 muX1_becomes [.ref h, .ref g] M L (zk_Ev (va_up M h (zs_cp 7 (M g) (M h))) L) := by
  refine zk_ofR (ls := [some (.ref h), some (.ref g)]) (by decide) rfl (Nat.le_of_ble_eq_true rfl) rfl ?_
  refine zk_aload_n dX1_becomes_0 rfl ?_
  refine zk_aload_n dX1_becomes_1 rfl ?_
  refine zk_getI dX1_becomes_2 fl_X1_9 hg.1 hg.2 rfl ?_
  refine zk_putG dX1_becomes_5 fl_X1_9 ft_1_0 rfl rfl hh.1 hh.2 rfl ?_
  refine zk_aload_n dX1_becomes_8 rfl ?_
  refine zk_aload_n dX1_becomes_9 rfl ?_
  refine zk_getI dX1_becomes_10 fl_X1_15 hg.1 hg.2 rfl ?_
  refine zk_putG dX1_becomes_13 fl_X1_15 ft_1_1 rfl rfl hh.1 hh.2 rfl ?_
  refine zk_aload_n dX1_becomes_16 rfl ?_
  refine zk_aload_n dX1_becomes_17 rfl ?_
  refine zk_getI dX1_becomes_18 fl_X1_18 hg.1 hg.2 rfl ?_
  refine zk_putG dX1_becomes_21 fl_X1_18 ft_1_2 rfl rfl hh.1 hh.2 rfl ?_
  refine zk_aload_n dX1_becomes_24 rfl ?_
  refine zk_aload_n dX1_becomes_25 rfl ?_
  refine zk_getI dX1_becomes_26 fl_X1_21 hg.1 hg.2 rfl ?_
  refine zk_putG dX1_becomes_29 fl_X1_21 ft_1_3 rfl rfl hh.1 hh.2 rfl ?_
  refine zk_aload_n dX1_becomes_32 rfl ?_
  refine zk_aload_n dX1_becomes_33 rfl ?_
  refine zk_getI dX1_becomes_34 fl_X1_24 hg.1 hg.2 rfl ?_
  refine zk_putG dX1_becomes_37 fl_X1_24 ft_1_4 rfl rfl hh.1 hh.2 rfl ?_
  refine zk_aload_n dX1_becomes_40 rfl ?_
  refine zk_aload_n dX1_becomes_41 rfl ?_
  refine zk_getI dX1_becomes_42 fl_X1_27 hg.1 hg.2 rfl ?_
  refine zk_putG dX1_becomes_45 fl_X1_27 ft_1_5 rfl rfl hh.1 hh.2 rfl ?_
  refine zk_aload_n dX1_becomes_48 rfl ?_
  refine zk_aload_n dX1_becomes_49 rfl ?_
  refine zk_getI dX1_becomes_50 fl_X1_30 hg.1 hg.2 rfl ?_
  refine zk_putG dX1_becomes_53 fl_X1_30 ft_1_6 rfl rfl hh.1 hh.2 rfl ?_
  refine zk_vret rfl dX1_becomes_56 ?_
  refine zk_Ev_of ?_ rfl
  simp only [zk_up_eq, zs_up2, zk_up_ne hne]
  congr 1
  funext i
  simp only [va_up, zs_cp]
  by_cases h7 : i < 7
  · rw [if_pos h7]
    rcases (show i = 0 ∨ i = 1 ∨ i = 2 ∨ i = 3 ∨ i = 4 ∨ i = 5 ∨ i = 6 by omega) with rfl | rfl | rfl | rfl | rfl | rfl | rfl <;> rfl
  · rw [if_neg h7]
    repeat rw [if_neg (by omega)]
set_option maxRecDepth 100000 in
set_option maxHeartbeats 4000000 in
theorem qX1_shoeAnew {l : Launch} {σ : zk_Sh} {M : zk_M} {L : zk_L} {h : Nat} (hh : zs_h σ h) : zk_C l σ 1 muX1_shoeAnew [.ref h] M L (zk_Ev (va_up M h (va_up (va_up (M h) 5 (zs_sk (M h 0))) 6 0)) L) := by
  refine zk_ofR (ls := [some (.ref h)]) (by decide) rfl (Nat.le_of_ble_eq_true rfl) rfl ?_
  refine zk_aload_n dX1_shoeAnew_0 rfl ?_
  refine zk_aload_n dX1_shoeAnew_1 rfl ?_
  refine zk_getI dX1_shoeAnew_2 fl_X1_9 hh.1 hh.2 rfl ?_
  refine zk_cNi (qX4_shoesOfKind) dX1_shoeAnew_5 miX4_shoesOfKind nl_X1_33 stX4_shoesOfKind rfl (by decide) rfl (Nat.le_of_ble_eq_true rfl) ?_
  refine zk_putG dX1_shoeAnew_8 fl_X1_27 ft_1_5 rfl rfl hh.1 hh.2 rfl ?_
  refine zk_aload_n dX1_shoeAnew_11 rfl ?_
  refine zk_iconst dX1_shoeAnew_12 zc_0 ?_
  refine zk_putG dX1_shoeAnew_13 fl_X1_30 ft_1_6 rfl rfl hh.1 hh.2 rfl ?_
  refine zk_vret rfl dX1_shoeAnew_16 ?_
  exact zk_Ev_of (by simp only [zk_up_eq, zs_up2]) rfl
set_option maxRecDepth 100000 in
set_option maxHeartbeats 4000000 in
theorem qX1_daysForShoe {l : Launch} {σ : zk_Sh} {M : zk_M} {L : zk_L} {h : Nat} (hh : zs_h σ h) : zk_C l σ 1 muX1_daysForShoe [.ref h] M L (zk_Ei (zs_dk (M h 0) (M h 1)) M L) := by
  refine zk_ofR (ls := [some (.ref h)]) (by decide) rfl (Nat.le_of_ble_eq_true rfl) rfl ?_
  refine zk_aload_n dX1_daysForShoe_0 rfl ?_
  refine zk_getI dX1_daysForShoe_1 fl_X1_9 hh.1 hh.2 rfl ?_
  refine zk_aload_n dX1_daysForShoe_4 rfl ?_
  refine zk_getI dX1_daysForShoe_5 fl_X1_15 hh.1 hh.2 rfl ?_
  refine zk_cNi (qX4_daysOfKind) dX1_daysForShoe_8 miX4_daysOfKind nl_X1_37 stX4_daysOfKind rfl (by decide) rfl (Nat.le_of_ble_eq_true rfl) ?_
  refine zk_iret rfl dX1_daysForShoe_11 ?_
  exact ⟨rfl, rfl, rfl⟩
set_option maxRecDepth 100000 in
set_option maxHeartbeats 4000000 in
theorem qX1_wearIron {l : Launch} {σ : zk_Sh} {M : zk_M} {L : zk_L} {h : Nat} (hh : zs_h σ h) : zk_C l σ 2 muX1_wearIron [.ref h] M L (zk_Ev (va_up M h (zs_wear (M h))) L) := by
  refine zk_ofR (ls := [some (.ref h), none]) (by decide) rfl (Nat.le_of_ble_eq_true rfl) rfl ?_
  refine zk_aload_n dX1_wearIron_0 rfl ?_
  refine zk_aload_n dX1_wearIron_1 rfl ?_
  refine zk_getI dX1_wearIron_2 fl_X1_30 hh.1 hh.2 rfl ?_
  refine zk_iconst dX1_wearIron_5 zc_1 ?_
  refine zk_iadd dX1_wearIron_6 ?_
  refine zk_bipush dX1_wearIron_7 zb_99 ?_
  refine zk_mmin dX1_wearIron_9 ml_X1_41 st_mmin in_J9 co_mmin (by decide) (Nat.le_of_ble_eq_true rfl) ?_
  refine zk_putG dX1_wearIron_12 fl_X1_30 ft_1_6 rfl rfl hh.1 hh.2 rfl ?_
  have hw : (if (99 : Int32) < M h 6 + 1 then 99 else M h 6 + 1) = zs_w (M h 6) := rfl
  rw [hw]
  refine zk_aload_n dX1_wearIron_15 rfl ?_
  refine zk_cVi (qX1_daysForShoe hh) dX1_wearIron_16 mwX1_daysForShoe ml_X1_46 hh.1 hh.2 rfl (by decide) rfl (Nat.le_of_ble_eq_true rfl) ?_
  simp only [zk_up_eq]
  rw [zk_up_ne (show (0 : Nat) ≠ 6 by decide), zk_up_ne (show (1 : Nat) ≠ 6 by decide)]
  refine zk_istore_n dX1_wearIron_19 zk_S_1 ?_
  refine zk_iload_n dX1_wearIron_20 rfl ?_
  refine zk_if_le (tgt := 50) dX1_wearIron_21 (by decide) (fun h21 => ?_) (fun h21 => ?_)
  · refine zk_vret rfl dX1_wearIron_50 ?_
    refine zk_Ev_of ?_ rfl
    try simp only [zk_up_eq, zs_up2]
    congr 1
    first | exact (if_neg (fun q => absurd q.1 (Int32.not_lt.mpr h21))).symm | exact (if_neg (fun q => h30 q.2.1)).symm | exact (if_neg (fun q => absurd q.2.2 (Int32.not_lt.mpr h37))).symm | exact (if_pos ⟨Int32.not_le.mp h21, h30, Int32.not_le.mp h37⟩).symm
  · refine zk_aload_n dX1_wearIron_24 rfl ?_
    refine zk_getI dX1_wearIron_25 fl_X1_30 hh.1 hh.2 rfl ?_
    refine zk_iload_n dX1_wearIron_28 rfl ?_
    refine zk_irem dX1_wearIron_29 (fun e => h21 (by rw [e]; decide)) ?_
    simp only [zk_up_eq]
    refine zk_if_ne (tgt := 50) dX1_wearIron_30 (by decide) (fun h30 => ?_) (fun h30 => ?_)
    · refine zk_vret rfl dX1_wearIron_50 ?_
      refine zk_Ev_of ?_ rfl
      try simp only [zk_up_eq, zs_up2]
      congr 1
      first | exact (if_neg (fun q => absurd q.1 (Int32.not_lt.mpr h21))).symm | exact (if_neg (fun q => h30 q.2.1)).symm | exact (if_neg (fun q => absurd q.2.2 (Int32.not_lt.mpr h37))).symm | exact (if_pos ⟨Int32.not_le.mp h21, h30, Int32.not_le.mp h37⟩).symm
    · refine zk_aload_n dX1_wearIron_33 rfl ?_
      refine zk_getI dX1_wearIron_34 fl_X1_27 hh.1 hh.2 rfl ?_
      simp only [zk_up_eq]
      rw [zk_up_ne (show (5 : Nat) ≠ 6 by decide)]
      refine zk_if_le (tgt := 50) dX1_wearIron_37 (by decide) (fun h37 => ?_) (fun h37 => ?_)
      · refine zk_vret rfl dX1_wearIron_50 ?_
        refine zk_Ev_of ?_ rfl
        try simp only [zk_up_eq, zs_up2]
        congr 1
        first | exact (if_neg (fun q => absurd q.1 (Int32.not_lt.mpr h21))).symm | exact (if_neg (fun q => h30 q.2.1)).symm | exact (if_neg (fun q => absurd q.2.2 (Int32.not_lt.mpr h37))).symm | exact (if_pos ⟨Int32.not_le.mp h21, h30, Int32.not_le.mp h37⟩).symm
      · refine zk_aload_n dX1_wearIron_40 rfl ?_
        refine zk_dup dX1_wearIron_41 rfl ?_
        refine zk_getI dX1_wearIron_42 fl_X1_27 hh.1 hh.2 rfl ?_
        simp only [zk_up_eq]
        rw [zk_up_ne (show (5 : Nat) ≠ 6 by decide)]
        refine zk_iconst dX1_wearIron_45 zc_1 ?_
        refine zk_isub dX1_wearIron_46 ?_
        refine zk_putG dX1_wearIron_47 fl_X1_27 ft_1_5 rfl rfl hh.1 hh.2 rfl ?_
        refine zk_vret rfl dX1_wearIron_50 ?_
        refine zk_Ev_of ?_ rfl
        try simp only [zk_up_eq, zs_up2]
        congr 1
        first | exact (if_neg (fun q => absurd q.1 (Int32.not_lt.mpr h21))).symm | exact (if_neg (fun q => h30 q.2.1)).symm | exact (if_neg (fun q => absurd q.2.2 (Int32.not_lt.mpr h37))).symm | exact (if_pos ⟨Int32.not_le.mp h21, h30, Int32.not_le.mp h37⟩).symm
set_option maxRecDepth 100000 in
set_option maxHeartbeats 4000000 in
theorem qX1_pullOf {l : Launch} {σ : zk_Sh} {M : zk_M} {L : zk_L} {h : Nat} (hh : zs_h σ h) {n : Nat} (hn : zs_r σ n) {a : Int32} (ha : zs_p a) (h2 : zs_p (M h 2)) (h3 : zs_p (M h 3)) : zk_C l σ 1 muX1_pullOf [.ref h, .ref n, .int a] M L (zk_Ei (zs_pull (M (σ.2.2.2 n 1)) (M h) a) M L) := by
  refine zk_ofR (ls := [some (.ref h), some (.ref n), some (.int a)]) (by decide) rfl (Nat.le_of_ble_eq_true rfl) rfl ?_
  refine zk_aload_n dX1_pullOf_0 rfl ?_
  refine zk_getI dX1_pullOf_1 fl_X1_27 hh.1 hh.2 rfl ?_
  refine zk_aload_n dX1_pullOf_4 rfl ?_
  refine zk_iload_n dX1_pullOf_5 rfl ?_
  refine zk_aload_n dX1_pullOf_6 rfl ?_
  refine zk_getI dX1_pullOf_7 fl_X1_18 hh.1 hh.2 rfl ?_
  refine zk_cVi (qX2_stepsBetween hn ha h2) dX1_pullOf_10 mwX2_stepsBetween ml_X1_50 hn.1 hn.2.1 rfl (by decide) rfl (Nat.le_of_ble_eq_true rfl) ?_
  refine zk_imul dX1_pullOf_13 ?_
  refine zk_iconst dX1_pullOf_14 zc_4 ?_
  refine zk_aload_n dX1_pullOf_15 rfl ?_
  refine zk_getI dX1_pullOf_16 fl_X1_27 hh.1 hh.2 rfl ?_
  refine zk_isub dX1_pullOf_19 ?_
  refine zk_aload_n dX1_pullOf_20 rfl ?_
  refine zk_iload_n dX1_pullOf_21 rfl ?_
  refine zk_aload_n dX1_pullOf_22 rfl ?_
  refine zk_getI dX1_pullOf_23 fl_X1_21 hh.1 hh.2 rfl ?_
  refine zk_cVi (qX2_stepsBetween hn ha h3) dX1_pullOf_26 mwX2_stepsBetween ml_X1_50 hn.1 hn.2.1 rfl (by decide) rfl (Nat.le_of_ble_eq_true rfl) ?_
  refine zk_imul dX1_pullOf_29 ?_
  refine zk_iadd dX1_pullOf_30 ?_
  refine zk_iret rfl dX1_pullOf_31 ?_
  exact ⟨rfl, rfl, rfl⟩
set_option maxRecDepth 100000 in
set_option maxHeartbeats 4000000 in
theorem qX1_stepsToGo {l : Launch} {σ : zk_Sh} {M : zk_M} {L : zk_L} {h : Nat} (hh : zs_h σ h) {n : Nat} (hn : zs_r σ n) (h4 : zs_p (M h 4)) (h3 : zs_p (M h 3)) : zk_C l σ 1 muX1_stepsToGo [.ref h, .ref n] M L (zk_Ei (M (σ.2.2.2 n 1) (M h 4 * 8 + M h 3).toNatClampNeg) M L) := by
  refine zk_ofR (ls := [some (.ref h), some (.ref n)]) (by decide) rfl (Nat.le_of_ble_eq_true rfl) rfl ?_
  refine zk_aload_n dX1_stepsToGo_0 rfl ?_
  refine zk_aload_n dX1_stepsToGo_1 rfl ?_
  refine zk_getI dX1_stepsToGo_2 fl_X1_24 hh.1 hh.2 rfl ?_
  refine zk_aload_n dX1_stepsToGo_5 rfl ?_
  refine zk_getI dX1_stepsToGo_6 fl_X1_21 hh.1 hh.2 rfl ?_
  refine zk_cVi (qX2_stepsBetween hn h4 h3) dX1_stepsToGo_9 mwX2_stepsBetween ml_X1_50 hn.1 hn.2.1 rfl (by decide) rfl (Nat.le_of_ble_eq_true rfl) ?_
  refine zk_iret rfl dX1_stepsToGo_12 ?_
  exact ⟨rfl, rfl, rfl⟩
set_option maxRecDepth 100000 in
set_option maxHeartbeats 4000000 in
theorem qX1_isWhereHeSays {l : Launch} {σ : zk_Sh} {M : zk_M} {L : zk_L} {h : Nat} (hh : zs_h σ h) : zk_C l σ 0 muX1_isWhereHeSays [.ref h] M L (zk_Ei (if M h 4 = M h 3 then 1 else 0) M L) := by
  refine zk_ofR (ls := [some (.ref h)]) (by decide) rfl (Nat.le_of_ble_eq_true rfl) rfl ?_
  refine zk_aload_n dX1_isWhereHeSays_0 rfl ?_
  refine zk_getI dX1_isWhereHeSays_1 fl_X1_24 hh.1 hh.2 rfl ?_
  refine zk_aload_n dX1_isWhereHeSays_4 rfl ?_
  refine zk_getI dX1_isWhereHeSays_5 fl_X1_21 hh.1 hh.2 rfl ?_
  refine zk_icmp_ne (tgt := 15) dX1_isWhereHeSays_8 (by decide) (fun h8 => ?_) (fun h8 => ?_)
  · refine zk_iconst dX1_isWhereHeSays_15 zc_0 ?_
    refine zk_zret rfl (by decide) dX1_isWhereHeSays_16 ?_
    exact zk_Ei_of (by first | exact (if_pos h8).symm | exact (if_neg h8).symm) rfl rfl
  · refine zk_iconst dX1_isWhereHeSays_11 zc_1 ?_
    refine zk_goto (tgt := 16) dX1_isWhereHeSays_12 (by decide) ?_
    refine zk_zret rfl (by decide) dX1_isWhereHeSays_16 ?_
    exact zk_Ei_of (by first | exact (if_pos h8).symm | exact (if_neg h8).symm) rfl rfl
set_option maxRecDepth 100000 in
set_option maxHeartbeats 4000000 in
theorem lX1_nextFrom {l : Launch} {σ : zk_Sh} {M : zk_M} {L : zk_L} {h : Nat} (hh : zs_h σ h) {n : Nat} (hn : zs_r σ n) {a : Int32} (ha : zs_p a) (h2 : zs_p (M h 2)) (h3 : zs_p (M h 3)) {Q : Option Value → zk_M → zk_L → Prop} : ∀ (m i : Nat) (b : Int32), i + m = 8 → zs_p b → zk_R l σ 2 muX1_nextFrom 60 [some (.ref h), some (.ref n), some (.int a), some (.int (zs_nx (M (σ.2.2.2 n 0)) (M (σ.2.2.2 n 1)) (M h) a m i b)), none, none] [] M L Q → zk_R l σ 2 muX1_nextFrom 13 [some (.ref h), some (.ref n), some (.int a), some (.int b), some (.int (zs_pull (M (σ.2.2.2 n 1)) (M h) b)), some (.int (nI i))] [] M L Q := by
  intro m
  induction m with
  | zero =>
    intro i b hi hb k
    obtain rfl : i = 8 := by omega
    refine zk_iload dX1_nextFrom_13 rfl ?_
    refine zk_bipush dX1_nextFrom_15 zb_8 ?_
    refine zk_icmp_ge (tgt := 60) dX1_nextFrom_17 (by decide) (fun _ => ?_) (fun q => absurd (by decide) q)
    refine zk_forget ?_ k
    exact ⟨Or.inr rfl, Or.inr rfl, Or.inr rfl, Or.inr rfl, Or.inl rfl, Or.inl rfl, trivial⟩
  | succ m ih =>
    intro i b hi hb k
    have hi8 : i < 8 := by omega
    refine zk_iload dX1_nextFrom_13 rfl ?_
    refine zk_bipush dX1_nextFrom_15 zb_8 ?_
    refine zk_icmp_ge (tgt := 60) dX1_nextFrom_17 (by decide) (fun h17 => absurd h17 (nI_ge hi8 (by decide))) (fun _ => ?_)
    refine zk_aload_n dX1_nextFrom_20 rfl ?_
    refine zk_iload_n dX1_nextFrom_21 rfl ?_
    refine zk_iload dX1_nextFrom_22 rfl ?_
    refine zk_cVi (qX2_joins hn ha (zs_p_nI hi8)) dX1_nextFrom_24 mwX2_joins ml_X1_59 hn.1 hn.2.1 rfl (by decide) rfl (Nat.le_of_ble_eq_true rfl) ?_
    refine zk_if_eq (tgt := 54) dX1_nextFrom_27 (by decide) (fun h27 => ?_) (fun h27 => ?_)
    · have hj : ¬ zs_j (M (σ.2.2.2 n 0)) a (nI i) := fun q => absurd h27 (by rw [if_pos q]; decide)
      refine zk_iinc dX1_nextFrom_54 zc_1 rfl zk_S_5 ?_
      refine zk_goto (tgt := 13) dX1_nextFrom_57 (by decide) ?_
      rw [← nI_succ]
      first
        | (refine ih (i + 1) (nI i) (by omega) (zs_p_nI hi8) ?_
           have e : (if zs_j (M (σ.2.2.2 n 0)) a (nI i) ∧ zs_pull (M (σ.2.2.2 n 1)) (M h) (nI i) < zs_pull (M (σ.2.2.2 n 1)) (M h) b then nI i else b) = nI i := if_pos ⟨hj, Int32.not_le.mp h39⟩
           rw [zs_nx, zs_for, e] at k
           exact k)
        | (refine ih (i + 1) b (by omega) hb ?_
           have e : (if zs_j (M (σ.2.2.2 n 0)) a (nI i) ∧ zs_pull (M (σ.2.2.2 n 1)) (M h) (nI i) < zs_pull (M (σ.2.2.2 n 1)) (M h) b then nI i else b) = b := by first | exact if_neg (fun q => hj q.1) | exact if_neg (fun q => absurd q.2 (Int32.not_lt.mpr h39))
           rw [zs_nx, zs_for, e] at k
           exact k)
    · have hj : zs_j (M (σ.2.2.2 n 0)) a (nI i) := Classical.byContradiction (fun q => h27 (by rw [if_neg q]))
      refine zk_aload_n dX1_nextFrom_30 rfl ?_
      refine zk_aload_n dX1_nextFrom_31 rfl ?_
      refine zk_iload dX1_nextFrom_32 rfl ?_
      refine zk_cVi (qX1_pullOf hh hn (zs_p_nI hi8) h2 h3) dX1_nextFrom_34 mwX1_pullOf ml_X1_55 hh.1 hh.2 rfl (by decide) rfl (Nat.le_of_ble_eq_true rfl) ?_
      refine zk_iload dX1_nextFrom_37 rfl ?_
      refine zk_icmp_ge (tgt := 54) dX1_nextFrom_39 (by decide) (fun h39 => ?_) (fun h39 => ?_)
      · refine zk_iinc dX1_nextFrom_54 zc_1 rfl zk_S_5 ?_
        refine zk_goto (tgt := 13) dX1_nextFrom_57 (by decide) ?_
        rw [← nI_succ]
        first
          | (refine ih (i + 1) (nI i) (by omega) (zs_p_nI hi8) ?_
             have e : (if zs_j (M (σ.2.2.2 n 0)) a (nI i) ∧ zs_pull (M (σ.2.2.2 n 1)) (M h) (nI i) < zs_pull (M (σ.2.2.2 n 1)) (M h) b then nI i else b) = nI i := if_pos ⟨hj, Int32.not_le.mp h39⟩
             rw [zs_nx, zs_for, e] at k
             exact k)
          | (refine ih (i + 1) b (by omega) hb ?_
             have e : (if zs_j (M (σ.2.2.2 n 0)) a (nI i) ∧ zs_pull (M (σ.2.2.2 n 1)) (M h) (nI i) < zs_pull (M (σ.2.2.2 n 1)) (M h) b then nI i else b) = b := by first | exact if_neg (fun q => hj q.1) | exact if_neg (fun q => absurd q.2 (Int32.not_lt.mpr h39))
             rw [zs_nx, zs_for, e] at k
             exact k)
      · refine zk_aload_n dX1_nextFrom_42 rfl ?_
        refine zk_aload_n dX1_nextFrom_43 rfl ?_
        refine zk_iload dX1_nextFrom_44 rfl ?_
        refine zk_cVi (qX1_pullOf hh hn (zs_p_nI hi8) h2 h3) dX1_nextFrom_46 mwX1_pullOf ml_X1_55 hh.1 hh.2 rfl (by decide) rfl (Nat.le_of_ble_eq_true rfl) ?_
        refine zk_istore dX1_nextFrom_49 zk_S_4 ?_
        refine zk_iload dX1_nextFrom_51 rfl ?_
        refine zk_istore_n dX1_nextFrom_53 zk_S_3 ?_
        refine zk_iinc dX1_nextFrom_54 zc_1 rfl zk_S_5 ?_
        refine zk_goto (tgt := 13) dX1_nextFrom_57 (by decide) ?_
        rw [← nI_succ]
        first
          | (refine ih (i + 1) (nI i) (by omega) (zs_p_nI hi8) ?_
             have e : (if zs_j (M (σ.2.2.2 n 0)) a (nI i) ∧ zs_pull (M (σ.2.2.2 n 1)) (M h) (nI i) < zs_pull (M (σ.2.2.2 n 1)) (M h) b then nI i else b) = nI i := if_pos ⟨hj, Int32.not_le.mp h39⟩
             rw [zs_nx, zs_for, e] at k
             exact k)
          | (refine ih (i + 1) b (by omega) hb ?_
             have e : (if zs_j (M (σ.2.2.2 n 0)) a (nI i) ∧ zs_pull (M (σ.2.2.2 n 1)) (M h) (nI i) < zs_pull (M (σ.2.2.2 n 1)) (M h) b then nI i else b) = b := by first | exact if_neg (fun q => hj q.1) | exact if_neg (fun q => absurd q.2 (Int32.not_lt.mpr h39))
             rw [zs_nx, zs_for, e] at k
             exact k)
set_option maxRecDepth 100000 in
set_option maxHeartbeats 4000000 in
theorem qX1_nextFrom {l : Launch} {σ : zk_Sh} {M : zk_M} {L : zk_L} {h : Nat} (hh : zs_h σ h) {n : Nat} (hn : zs_r σ n) {a : Int32} (ha : zs_p a) (h2 : zs_p (M h 2)) (h3 : zs_p (M h 3)) : zk_C l σ 2 muX1_nextFrom [.ref h, .ref n, .int a] M L (zk_Ei (zs_nx (M (σ.2.2.2 n 0)) (M (σ.2.2.2 n 1)) (M h) a 8 0 a) M L) := by
  refine zk_ofR (ls := [some (.ref h), some (.ref n), some (.int a), none, none, none]) (by decide) rfl (Nat.le_of_ble_eq_true rfl) rfl ?_
  refine zk_iload_n dX1_nextFrom_0 rfl ?_
  refine zk_istore_n dX1_nextFrom_1 zk_S_3 ?_
  refine zk_aload_n dX1_nextFrom_2 rfl ?_
  refine zk_aload_n dX1_nextFrom_3 rfl ?_
  refine zk_iload_n dX1_nextFrom_4 rfl ?_
  refine zk_cVi (qX1_pullOf hh hn ha h2 h3) dX1_nextFrom_5 mwX1_pullOf ml_X1_55 hh.1 hh.2 rfl (by decide) rfl (Nat.le_of_ble_eq_true rfl) ?_
  refine zk_istore dX1_nextFrom_8 zk_S_4 ?_
  refine zk_iconst dX1_nextFrom_10 zc_0 ?_
  refine zk_istore dX1_nextFrom_11 zk_S_5 ?_
  refine lX1_nextFrom hh hn ha h2 h3 8 0 a rfl ha ?_
  refine zk_iload_n dX1_nextFrom_60 rfl ?_
  refine zk_iret rfl dX1_nextFrom_61 ?_
  exact ⟨rfl, rfl, rfl⟩
theorem zs_wear_ne {f : Nat → Int32} {k : Nat} (h5 : k ≠ 5) (h6 : k ≠ 6) : zs_wear f k = f k := by
  unfold zs_wear
  split
  · rw [zk_up_ne h5, zk_up_ne h6]
  · rw [zk_up_ne h6]
theorem zs_for_p {J T f : Nat → Int32} {a : Int32} : ∀ (n i : Nat) (b : Int32), i + n ≤ 8 → zs_p b → zs_p (zs_nx J T f a n i b) := by
  intro n
  induction n with
  | zero => intro i b _ hb; exact hb
  | succ n ih =>
    intro i b hi hb
    show zs_p (zs_nx J T f a n (i + 1) _)
    apply ih (i + 1) _ (by omega)
    dsimp only
    split
    · exact zs_p_nI (by omega)
    · exact hb
theorem zs_ride_ne {J T f : Nat → Int32} {k : Nat} (h4 : k ≠ 4) (h5 : k ≠ 5) (h6 : k ≠ 6) : zs_ride J T f k = f k := by
  unfold zs_ride
  rw [zk_up_ne h4, zs_wear_ne h5 h6]
theorem zs_ride_ok {J T f : Nat → Int32} (h : zs_ok f) : zs_ok (zs_ride J T f) := by
  refine ⟨?_, ?_, ?_⟩
  · rw [zs_ride_ne (by decide) (by decide) (by decide)]; exact h.1
  · rw [zs_ride_ne (by decide) (by decide) (by decide)]; exact h.2.1
  · unfold zs_ride
    rw [zk_up_eq]
    exact zs_for_p 8 0 _ (by decide) (by rw [zs_wear_ne (by decide) (by decide)]; exact h.2.2)
theorem zs_hr {σ : zk_Sh} {h n : Nat} (hh : zs_h σ h) (hn : zs_r σ n) : σ.2.2.2 n 0 ≠ h ∧ σ.2.2.2 n 1 ≠ h := by
  refine ⟨fun e => ?_, fun e => ?_⟩
  · have := hn.2.2.1.2.1; rw [e, hh.2] at this; cases this
  · have := hn.2.2.2.1.2.1; rw [e, hh.2] at this; cases this
set_option maxRecDepth 100000 in
set_option maxHeartbeats 4000000 in
theorem qX1_rideDay {l : Launch} {σ : zk_Sh} {M : zk_M} {L : zk_L} {h : Nat} (hh : zs_h σ h) {n : Nat} (hn : zs_r σ n) (ok : zs_ok (M h)) : zk_C l σ 3 muX1_rideDay [.ref h, .ref n] M L (zk_Ev (va_up M h (zs_ride (M (σ.2.2.2 n 0)) (M (σ.2.2.2 n 1)) (M h))) L) := by
  refine zk_ofR (ls := [some (.ref h), some (.ref n)]) (by decide) rfl (Nat.le_of_ble_eq_true rfl) rfl ?_
  refine zk_aload_n dX1_rideDay_0 rfl ?_
  refine zk_cVv (qX1_wearIron hh) dX1_rideDay_1 mwX1_wearIron ml_X1_63 hh.1 hh.2 rfl (by decide) rfl (Nat.le_of_ble_eq_true rfl) ?_
  refine zk_aload_n dX1_rideDay_4 rfl ?_
  refine zk_aload_n dX1_rideDay_5 rfl ?_
  refine zk_aload_n dX1_rideDay_6 rfl ?_
  refine zk_aload_n dX1_rideDay_7 rfl ?_
  refine zk_getI dX1_rideDay_8 fl_X1_24 hh.1 hh.2 rfl ?_
  simp only [zk_up_eq]
  refine zk_cVi (qX1_nextFrom hh hn (by rw [zs_wear_ne (by decide) (by decide)]; exact ok.2.2) (by rw [zk_up_eq, zs_wear_ne (by decide) (by decide)]; exact ok.1) (by rw [zk_up_eq, zs_wear_ne (by decide) (by decide)]; exact ok.2.1)) dX1_rideDay_11 mwX1_nextFrom ml_X1_66 hh.1 hh.2 rfl (by decide) rfl (Nat.le_of_ble_eq_true rfl) ?_
  refine zk_putG dX1_rideDay_14 fl_X1_24 ft_1_4 rfl rfl hh.1 hh.2 rfl ?_
  refine zk_vret rfl dX1_rideDay_17 ?_
  refine zk_Ev_of ?_ rfl
  simp only [zk_up_eq, zs_up2, zk_up_ne (zs_hr hh hn).1, zk_up_ne (zs_hr hh hn).2]
  rfl
set_option maxRecDepth 100000 in
set_option maxHeartbeats 4000000 in
theorem lX1_rideDays {l : Launch} {σ : zk_Sh} {L : zk_L} {h : Nat} (hh : zs_h σ h) {n : Nat} (hn : zs_r σ n) {t : Nat} (ht : t < 2 ^ 31) {Q : Option Value → zk_M → zk_L → Prop} : ∀ (m i : Nat) (M : zk_M), i + m = t → zs_ok (M h) → zk_R l σ 4 muX1_rideDays 18 [some (.ref h), some (.ref n), none, none] [] (va_up M h (zs_rides (M (σ.2.2.2 n 0)) (M (σ.2.2.2 n 1)) m (M h))) L Q → zk_R l σ 4 muX1_rideDays 2 [some (.ref h), some (.ref n), some (.int (nI t)), some (.int (nI i))] [] M L Q := by
  intro m
  induction m with
  | zero =>
    intro i M hi ok k
    obtain rfl : i = t := by omega
    refine zk_iload_n dX1_rideDays_2 rfl ?_
    refine zk_iload_n dX1_rideDays_3 rfl ?_
    refine zk_icmp_ge (tgt := 18) dX1_rideDays_4 (by decide) (fun _ => ?_) (fun q => absurd (nI_le (Nat.le_refl _) ht) q)
    rw [zs_rides, zs_up_self] at k
    refine zk_forget ?_ k
    exact ⟨Or.inr rfl, Or.inr rfl, Or.inl rfl, Or.inl rfl, trivial⟩
  | succ m ih =>
    intro i M hi ok k
    have hi : i < t := by omega
    refine zk_iload_n dX1_rideDays_2 rfl ?_
    refine zk_iload_n dX1_rideDays_3 rfl ?_
    refine zk_icmp_ge (tgt := 18) dX1_rideDays_4 (by decide) (fun h4 => absurd h4 (nI_ge hi (by omega))) (fun _ => ?_)
    refine zk_aload_n dX1_rideDays_7 rfl ?_
    refine zk_aload_n dX1_rideDays_8 rfl ?_
    refine zk_cVv (qX1_rideDay hh hn ok) dX1_rideDays_9 mwX1_rideDay ml_X1_69 hh.1 hh.2 rfl (by decide) rfl (Nat.le_of_ble_eq_true rfl) ?_
    refine zk_iinc dX1_rideDays_12 zc_1 rfl zk_S_3 ?_
    refine zk_goto (tgt := 2) dX1_rideDays_15 (by decide) ?_
    rw [← nI_succ]
    refine ih (i + 1) _ (by omega) (by rw [zk_up_eq]; exact zs_ride_ok ok) ?_
    rw [zs_up2, zk_up_eq, zk_up_ne (zs_hr hh hn).1, zk_up_ne (zs_hr hh hn).2]
    exact k
set_option maxRecDepth 100000 in
set_option maxHeartbeats 4000000 in
theorem qX1_rideDays {l : Launch} {σ : zk_Sh} {M : zk_M} {L : zk_L} {h : Nat} (hh : zs_h σ h) {n : Nat} (hn : zs_r σ n) (ok : zs_ok (M h)) {t : Nat} (ht : t < 2 ^ 31) : zk_C l σ 4 muX1_rideDays [.ref h, .ref n, .int (nI t)] M L (zk_Ev (va_up M h (zs_rides (M (σ.2.2.2 n 0)) (M (σ.2.2.2 n 1)) t (M h))) L) := by
  refine zk_ofR (ls := [some (.ref h), some (.ref n), some (.int (nI t)), none]) (by decide) rfl (Nat.le_of_ble_eq_true rfl) rfl ?_
  refine zk_iconst dX1_rideDays_0 zc_0 ?_
  refine zk_istore_n dX1_rideDays_1 zk_S_3 ?_
  refine lX1_rideDays hh hn ht t 0 M (by omega) ok ?_
  refine zk_vret rfl dX1_rideDays_18 ?_
  exact ⟨rfl, rfl, rfl⟩
set_option maxRecDepth 100000 in
set_option maxHeartbeats 4000000 in
theorem lX1_daysUntilAt {l : Launch} {σ : zk_Sh} {L : zk_L} {h : Nat} (hh : zs_h σ h) {n : Nat} (hn : zs_r σ n) {p : Int32} {Q : Option Value → zk_M → zk_L → Prop} : ∀ (m i : Nat) (M : zk_M), i + m = 61 → zs_ok (M h) → Q (some (.int (zs_until (M (σ.2.2.2 n 0)) (M (σ.2.2.2 n 1)) p m i (M h)).1)) (va_up M h (zs_until (M (σ.2.2.2 n 0)) (M (σ.2.2.2 n 1)) p m i (M h)).2) L → zk_R l σ 4 muX1_daysUntilAt 2 [some (.ref h), some (.ref n), some (.int p), some (.int (nI i))] [] M L Q := by
  intro m
  induction m with
  | zero =>
    intro i M hi ok k
    obtain rfl : i = 61 := by omega
    refine zk_iload_n dX1_daysUntilAt_2 rfl ?_
    refine zk_bipush dX1_daysUntilAt_3 zb_60 ?_
    refine zk_icmp_gt (tgt := 29) dX1_daysUntilAt_5 (by decide) (fun _ => ?_) (fun q => absurd (by decide) q)
    refine zk_bipush (v := 61) dX1_daysUntilAt_29 (by decide) ?_
    refine zk_iret (v := 61) rfl dX1_daysUntilAt_31 ?_
    simp only [zs_until] at k
    rw [zs_up_self] at k
    exact k
  | succ m ih =>
    intro i M hi ok k
    refine zk_iload_n dX1_daysUntilAt_2 rfl ?_
    refine zk_bipush dX1_daysUntilAt_3 zb_60 ?_
    refine zk_icmp_gt (tgt := 29) dX1_daysUntilAt_5 (by decide) (fun h5 => absurd h5 (nI_nlt (show i ≤ 60 by omega) (by decide))) (fun _ => ?_)
    refine zk_aload_n dX1_daysUntilAt_8 rfl ?_
    refine zk_getI dX1_daysUntilAt_9 fl_X1_24 hh.1 hh.2 rfl ?_
    refine zk_iload_n dX1_daysUntilAt_12 rfl ?_
    refine zk_icmp_ne (tgt := 18) dX1_daysUntilAt_13 (by decide) (fun h13 => ?_) (fun h13 => ?_)
    · refine zk_aload_n dX1_daysUntilAt_18 rfl ?_
      refine zk_aload_n dX1_daysUntilAt_19 rfl ?_
      refine zk_cVv (qX1_rideDay hh hn ok) dX1_daysUntilAt_20 mwX1_rideDay ml_X1_69 hh.1 hh.2 rfl (by decide) rfl (Nat.le_of_ble_eq_true rfl) ?_
      refine zk_iinc dX1_daysUntilAt_23 zc_1 rfl zk_S_3 ?_
      refine zk_goto (tgt := 2) dX1_daysUntilAt_26 (by decide) ?_
      rw [← nI_succ]
      refine ih (i + 1) _ (by omega) (by rw [zk_up_eq]; exact zs_ride_ok ok) ?_
      have e : zs_until (M (σ.2.2.2 n 0)) (M (σ.2.2.2 n 1)) p (m + 1) i (M h) = zs_until (M (σ.2.2.2 n 0)) (M (σ.2.2.2 n 1)) p m (i + 1) (zs_ride (M (σ.2.2.2 n 0)) (M (σ.2.2.2 n 1)) (M h)) := if_neg h13
      rw [e] at k
      rw [zk_up_eq, zk_up_ne (zs_hr hh hn).1, zk_up_ne (zs_hr hh hn).2, zs_up2]
      exact k
    · refine zk_iload_n dX1_daysUntilAt_16 rfl ?_
      refine zk_iret rfl dX1_daysUntilAt_17 ?_
      have e : zs_until (M (σ.2.2.2 n 0)) (M (σ.2.2.2 n 1)) p (m + 1) i (M h) = (nI i, M h) := if_pos h13
      rw [e] at k
      rw [zs_up_self] at k
      exact k
set_option maxRecDepth 100000 in
set_option maxHeartbeats 4000000 in
theorem qX1_daysUntilAt {l : Launch} {σ : zk_Sh} {M : zk_M} {L : zk_L} {h : Nat} (hh : zs_h σ h) {n : Nat} (hn : zs_r σ n) (ok : zs_ok (M h)) {p : Int32} : zk_C l σ 4 muX1_daysUntilAt [.ref h, .ref n, .int p] M L (zk_Ei (zs_until (M (σ.2.2.2 n 0)) (M (σ.2.2.2 n 1)) p 61 0 (M h)).1 (va_up M h (zs_until (M (σ.2.2.2 n 0)) (M (σ.2.2.2 n 1)) p 61 0 (M h)).2) L) := by
  refine zk_ofR (ls := [some (.ref h), some (.ref n), some (.int p), none]) (by decide) rfl (Nat.le_of_ble_eq_true rfl) rfl ?_
  refine zk_iconst dX1_daysUntilAt_0 zc_0 ?_
  refine zk_istore_n dX1_daysUntilAt_1 zk_S_3 ?_
  exact lX1_daysUntilAt hh hn 61 0 M rfl ok ⟨rfl, rfl, rfl⟩
end
section
theorem zb_16 : (Int8.ofInt 16).toInt32 = (16 : Int32) := by decide +kernel
theorem zb_63 : (Int8.ofInt 63).toInt32 = (63 : Int32) := by decide +kernel
theorem zb_64 : (Int8.ofInt 64).toInt32 = (64 : Int32) := by decide +kernel
theorem zb_9 : (Int8.ofInt 9).toInt32 = (9 : Int32) := by decide +kernel
def zs_us (x y : Int32) : Int32 := (x.toUInt32 >>> (y.toUInt32 &&& Int32.toUInt32 31)).toInt32
def zs_bc1 (x : Int32) : Int32 := x - (zs_us x 1 &&& 1431655765)
def zs_bc2 (x : Int32) : Int32 := (x &&& 858993459) + (zs_us x 2 &&& 858993459)
def zs_bc3 (x : Int32) : Int32 := (x + zs_us x 4) &&& 252645135
def zs_bc4 (x : Int32) : Int32 := x + zs_us x 8
def zs_bc5 (x : Int32) : Int32 := x + zs_us x 16
/-- Integer.bitCount, as it reckons -/
def zs_bc (x : Int32) : Int32 := zs_bc5 (zs_bc4 (zs_bc3 (zs_bc2 (zs_bc1 x)))) &&& 63
theorem zs_ixin {a b : Nat} (ha : a < 8) (hb : b < 8) : vp_in (nI a * 8 + nI b) 64 := by rw [zs_ix ha hb]; exact vp_in_nI (by omega) (by decide)
theorem zs_ixj {a b : Nat} (ha : a < 8) (hb : b < 8) : (nI a * 8 + nI b).toNatClampNeg = a * 8 + b := by rw [zs_ix ha hb]; exact nI_clamp (by omega)
theorem zs_nI_inj {a b : Nat} (ha : a < 2 ^ 31) (hb : b < 2 ^ 31) (h : nI a = nI b) : a = b := by
  have := congrArg Int32.toInt h
  rw [nI_toInt ha, nI_toInt hb] at this
  omega
theorem zs_d0_0 {J : Nat → Int32} {a b : Nat} (h : a = b) : zs_d0 J a b = 0 := if_pos h
theorem zs_d0_1 {J : Nat → Int32} {a b : Nat} (h : ¬ a = b) (hj : zs_j J (nI a) (nI b)) : zs_d0 J a b = 1 := by rw [zs_d0, if_neg h, if_pos hj]
theorem zs_d0_9 {J : Nat → Int32} {a b : Nat} (h : ¬ a = b) (hj : ¬ zs_j J (nI a) (nI b)) : zs_d0 J a b = 9 := by rw [zs_d0, if_neg h, if_neg hj]
set_option maxRecDepth 100000 in
set_option maxHeartbeats 4000000 in
theorem qJ6_bitCount_0f7a4 {l : Launch} {σ : zk_Sh} {M : zk_M} {L : zk_L} {x : Int32} : zk_C l σ 0 muJ6_bitCount_0f7a4 [.int x] M L (zk_Ei (zs_bc x) M L) := by
  refine zk_ofR (ls := [some (.int x)]) (by decide) rfl (Nat.le_of_ble_eq_true rfl) rfl ?_
  refine zk_iload_n dJ6_bitCount_0f7a4_0 rfl ?_
  refine zk_iload_n dJ6_bitCount_0f7a4_1 rfl ?_
  refine zk_iconst dJ6_bitCount_0f7a4_2 zc_1 ?_
  refine zk_iushr dJ6_bitCount_0f7a4_3 ?_
  refine zk_ldcw dJ6_bitCount_0f7a4_4 ct_J6_265 ?_
  refine zk_iand dJ6_bitCount_0f7a4_7 ?_
  refine zk_isub dJ6_bitCount_0f7a4_8 ?_
  refine zk_istore_n dJ6_bitCount_0f7a4_9 zk_S_0 ?_
  refine zk_iload_n dJ6_bitCount_0f7a4_10 rfl ?_
  refine zk_ldcw dJ6_bitCount_0f7a4_11 ct_J6_266 ?_
  refine zk_iand dJ6_bitCount_0f7a4_14 ?_
  refine zk_iload_n dJ6_bitCount_0f7a4_15 rfl ?_
  refine zk_iconst dJ6_bitCount_0f7a4_16 zc_2 ?_
  refine zk_iushr dJ6_bitCount_0f7a4_17 ?_
  refine zk_ldcw dJ6_bitCount_0f7a4_18 ct_J6_266 ?_
  refine zk_iand dJ6_bitCount_0f7a4_21 ?_
  refine zk_iadd dJ6_bitCount_0f7a4_22 ?_
  refine zk_istore_n dJ6_bitCount_0f7a4_23 zk_S_0 ?_
  refine zk_iload_n dJ6_bitCount_0f7a4_24 rfl ?_
  refine zk_iload_n dJ6_bitCount_0f7a4_25 rfl ?_
  refine zk_iconst dJ6_bitCount_0f7a4_26 zc_4 ?_
  refine zk_iushr dJ6_bitCount_0f7a4_27 ?_
  refine zk_iadd dJ6_bitCount_0f7a4_28 ?_
  refine zk_ldcw dJ6_bitCount_0f7a4_29 ct_J6_267 ?_
  refine zk_iand dJ6_bitCount_0f7a4_32 ?_
  refine zk_istore_n dJ6_bitCount_0f7a4_33 zk_S_0 ?_
  refine zk_iload_n dJ6_bitCount_0f7a4_34 rfl ?_
  refine zk_iload_n dJ6_bitCount_0f7a4_35 rfl ?_
  refine zk_bipush dJ6_bitCount_0f7a4_36 zb_8 ?_
  refine zk_iushr dJ6_bitCount_0f7a4_38 ?_
  refine zk_iadd dJ6_bitCount_0f7a4_39 ?_
  refine zk_istore_n dJ6_bitCount_0f7a4_40 zk_S_0 ?_
  refine zk_iload_n dJ6_bitCount_0f7a4_41 rfl ?_
  refine zk_iload_n dJ6_bitCount_0f7a4_42 rfl ?_
  refine zk_bipush dJ6_bitCount_0f7a4_43 zb_16 ?_
  refine zk_iushr dJ6_bitCount_0f7a4_45 ?_
  refine zk_iadd dJ6_bitCount_0f7a4_46 ?_
  refine zk_istore_n dJ6_bitCount_0f7a4_47 zk_S_0 ?_
  refine zk_iload_n dJ6_bitCount_0f7a4_48 rfl ?_
  refine zk_bipush dJ6_bitCount_0f7a4_49 zb_63 ?_
  refine zk_iand dJ6_bitCount_0f7a4_51 ?_
  refine zk_iret rfl dJ6_bitCount_0f7a4_52 ?_
  exact ⟨rfl, rfl, rfl⟩
set_option maxRecDepth 100000 in
set_option maxHeartbeats 4000000 in
theorem lX2_rs1 {l : Launch} {σ : zk_Sh} {L : zk_L} {n : Nat} (hn : zs_r σ n) {Q : Option Value → zk_M → zk_L → Prop} {a : Nat} (ha : a < 8) : ∀ (m b : Nat) (M : zk_M), b + m = 8 → zk_R l σ 2 muX2_reckonSteps 59 [some (.ref n), some (.int (nI a)), none, none, none] [] (va_up M (σ.2.2.2 n 1) (zs_for (fun b T => va_up T (a * 8 + b) (zs_d0 (M (σ.2.2.2 n 0)) a b)) m b (M (σ.2.2.2 n 1)))) L Q → zk_R l σ 2 muX2_reckonSteps 10 [some (.ref n), some (.int (nI a)), some (.int (nI b)), none, none] [] M L Q := by
  intro m
  induction m with
  | zero =>
    intro b M hi k
    obtain rfl : b = 8 := by omega
    refine zk_iload_n dX2_reckonSteps_10 rfl ?_
    refine zk_bipush dX2_reckonSteps_11 zb_8 ?_
    refine zk_icmp_ge (tgt := 59) dX2_reckonSteps_13 (by decide) (fun _ => ?_) (fun q => absurd (by decide) q)
    rw [zs_for, zs_up_self] at k
    refine zk_forget ?_ k
    exact ⟨Or.inr rfl, Or.inr rfl, Or.inl rfl, Or.inl rfl, Or.inl rfl, trivial⟩
  | succ m ih =>
    intro b M hi k
    have h8 : b < 8 := by omega
    refine zk_iload_n dX2_reckonSteps_10 rfl ?_
    refine zk_bipush dX2_reckonSteps_11 zb_8 ?_
    refine zk_icmp_ge (tgt := 59) dX2_reckonSteps_13 (by decide) (fun h13 => absurd h13 (nI_ge h8 (by decide))) (fun _ => ?_)
    refine zk_aload_n dX2_reckonSteps_16 rfl ?_
    refine zk_iload_n dX2_reckonSteps_17 rfl ?_
    refine zk_iload_n dX2_reckonSteps_18 rfl ?_
    refine zk_cVi (qX2_joins hn (zs_p_nI ha) (zs_p_nI h8)) dX2_reckonSteps_19 mwX2_joins ml_X2_46 hn.1 hn.2.1 rfl (by decide) rfl (Nat.le_of_ble_eq_true rfl) ?_
    refine zk_if_eq (tgt := 29) dX2_reckonSteps_22 (by decide) (fun h22 => ?_) (fun h22 => ?_)
    · have hj : ¬ zs_j (M (σ.2.2.2 n 0)) (nI a) (nI b) := fun q => absurd h22 (by rw [if_pos q]; decide)
      refine zk_bipush dX2_reckonSteps_29 zb_9 ?_
      refine zk_istore_n dX2_reckonSteps_31 zk_S_3 ?_
      refine zk_aload_n dX2_reckonSteps_32 rfl ?_
      refine zk_getR dX2_reckonSteps_33 fl_X2_15 hn.1 hn.2.1 rfl ?_
      refine zk_iload_n dX2_reckonSteps_36 rfl ?_
      refine zk_bipush dX2_reckonSteps_37 zb_8 ?_
      refine zk_imul dX2_reckonSteps_39 ?_
      refine zk_iload_n dX2_reckonSteps_40 rfl ?_
      refine zk_iadd dX2_reckonSteps_41 ?_
      refine zk_iload_n dX2_reckonSteps_42 rfl ?_
      refine zk_iload_n dX2_reckonSteps_43 rfl ?_
      refine zk_icmp_ne (tgt := 51) dX2_reckonSteps_44 (by decide) (fun h44 => ?_) (fun h44 => ?_)
      · have hab : ¬ a = b := fun q => h44 (by rw [q])
        refine zk_iload_n dX2_reckonSteps_51 rfl ?_
        refine zk_iast (j := a * 8 + b) dX2_reckonSteps_52 hn.2.2.2.1.1 hn.2.2.2.1.2.1 (zs_in hn.2.2.2.1.2.2 (zs_ixin ha h8)) (zs_ixj ha h8) ?_
        refine zk_iinc dX2_reckonSteps_53 zc_1 rfl zk_S_2 ?_
        refine zk_goto (tgt := 10) dX2_reckonSteps_56 (by decide) ?_
        rw [← nI_succ]
        refine zk_post (M' := va_up M (σ.2.2.2 n 1) (va_up (M (σ.2.2.2 n 1)) (a * 8 + b) (zs_d0 (M (σ.2.2.2 n 0)) a b))) (congrArg (fun v => va_up M (σ.2.2.2 n 1) (va_up (M (σ.2.2.2 n 1)) (a * 8 + b) v)) (by first | exact (zs_d0_0 hab).symm | exact (zs_d0_1 hab hj).symm | exact (zs_d0_9 hab hj).symm)) rfl ?_
        refine zk_forget ?_ (ih (b + 1) _ (by omega) ?_)
        · exact ⟨Or.inr rfl, Or.inr rfl, Or.inr rfl, Or.inl rfl, Or.inl rfl, trivial⟩
        · rw [zs_up2, zk_up_eq, zk_up_ne hn.2.2.2.2]
          exact k
      · have hab : a = b := zs_nI_inj (by omega) (by omega) h44
        refine zk_iconst dX2_reckonSteps_47 zc_0 ?_
        refine zk_goto (tgt := 52) dX2_reckonSteps_48 (by decide) ?_
        refine zk_iast (j := a * 8 + b) dX2_reckonSteps_52 hn.2.2.2.1.1 hn.2.2.2.1.2.1 (zs_in hn.2.2.2.1.2.2 (zs_ixin ha h8)) (zs_ixj ha h8) ?_
        refine zk_iinc dX2_reckonSteps_53 zc_1 rfl zk_S_2 ?_
        refine zk_goto (tgt := 10) dX2_reckonSteps_56 (by decide) ?_
        rw [← nI_succ]
        refine zk_post (M' := va_up M (σ.2.2.2 n 1) (va_up (M (σ.2.2.2 n 1)) (a * 8 + b) (zs_d0 (M (σ.2.2.2 n 0)) a b))) (congrArg (fun v => va_up M (σ.2.2.2 n 1) (va_up (M (σ.2.2.2 n 1)) (a * 8 + b) v)) (by first | exact (zs_d0_0 hab).symm | exact (zs_d0_1 hab hj).symm | exact (zs_d0_9 hab hj).symm)) rfl ?_
        refine zk_forget ?_ (ih (b + 1) _ (by omega) ?_)
        · exact ⟨Or.inr rfl, Or.inr rfl, Or.inr rfl, Or.inl rfl, Or.inl rfl, trivial⟩
        · rw [zs_up2, zk_up_eq, zk_up_ne hn.2.2.2.2]
          exact k
    · have hj : zs_j (M (σ.2.2.2 n 0)) (nI a) (nI b) := Classical.byContradiction (fun q => h22 (by rw [if_neg q]))
      refine zk_iconst dX2_reckonSteps_25 zc_1 ?_
      refine zk_goto (tgt := 31) dX2_reckonSteps_26 (by decide) ?_
      refine zk_istore_n dX2_reckonSteps_31 zk_S_3 ?_
      refine zk_aload_n dX2_reckonSteps_32 rfl ?_
      refine zk_getR dX2_reckonSteps_33 fl_X2_15 hn.1 hn.2.1 rfl ?_
      refine zk_iload_n dX2_reckonSteps_36 rfl ?_
      refine zk_bipush dX2_reckonSteps_37 zb_8 ?_
      refine zk_imul dX2_reckonSteps_39 ?_
      refine zk_iload_n dX2_reckonSteps_40 rfl ?_
      refine zk_iadd dX2_reckonSteps_41 ?_
      refine zk_iload_n dX2_reckonSteps_42 rfl ?_
      refine zk_iload_n dX2_reckonSteps_43 rfl ?_
      refine zk_icmp_ne (tgt := 51) dX2_reckonSteps_44 (by decide) (fun h44 => ?_) (fun h44 => ?_)
      · have hab : ¬ a = b := fun q => h44 (by rw [q])
        refine zk_iload_n dX2_reckonSteps_51 rfl ?_
        refine zk_iast (j := a * 8 + b) dX2_reckonSteps_52 hn.2.2.2.1.1 hn.2.2.2.1.2.1 (zs_in hn.2.2.2.1.2.2 (zs_ixin ha h8)) (zs_ixj ha h8) ?_
        refine zk_iinc dX2_reckonSteps_53 zc_1 rfl zk_S_2 ?_
        refine zk_goto (tgt := 10) dX2_reckonSteps_56 (by decide) ?_
        rw [← nI_succ]
        refine zk_post (M' := va_up M (σ.2.2.2 n 1) (va_up (M (σ.2.2.2 n 1)) (a * 8 + b) (zs_d0 (M (σ.2.2.2 n 0)) a b))) (congrArg (fun v => va_up M (σ.2.2.2 n 1) (va_up (M (σ.2.2.2 n 1)) (a * 8 + b) v)) (by first | exact (zs_d0_0 hab).symm | exact (zs_d0_1 hab hj).symm | exact (zs_d0_9 hab hj).symm)) rfl ?_
        refine zk_forget ?_ (ih (b + 1) _ (by omega) ?_)
        · exact ⟨Or.inr rfl, Or.inr rfl, Or.inr rfl, Or.inl rfl, Or.inl rfl, trivial⟩
        · rw [zs_up2, zk_up_eq, zk_up_ne hn.2.2.2.2]
          exact k
      · have hab : a = b := zs_nI_inj (by omega) (by omega) h44
        refine zk_iconst dX2_reckonSteps_47 zc_0 ?_
        refine zk_goto (tgt := 52) dX2_reckonSteps_48 (by decide) ?_
        refine zk_iast (j := a * 8 + b) dX2_reckonSteps_52 hn.2.2.2.1.1 hn.2.2.2.1.2.1 (zs_in hn.2.2.2.1.2.2 (zs_ixin ha h8)) (zs_ixj ha h8) ?_
        refine zk_iinc dX2_reckonSteps_53 zc_1 rfl zk_S_2 ?_
        refine zk_goto (tgt := 10) dX2_reckonSteps_56 (by decide) ?_
        rw [← nI_succ]
        refine zk_post (M' := va_up M (σ.2.2.2 n 1) (va_up (M (σ.2.2.2 n 1)) (a * 8 + b) (zs_d0 (M (σ.2.2.2 n 0)) a b))) (congrArg (fun v => va_up M (σ.2.2.2 n 1) (va_up (M (σ.2.2.2 n 1)) (a * 8 + b) v)) (by first | exact (zs_d0_0 hab).symm | exact (zs_d0_1 hab hj).symm | exact (zs_d0_9 hab hj).symm)) rfl ?_
        refine zk_forget ?_ (ih (b + 1) _ (by omega) ?_)
        · exact ⟨Or.inr rfl, Or.inr rfl, Or.inr rfl, Or.inl rfl, Or.inl rfl, trivial⟩
        · rw [zs_up2, zk_up_eq, zk_up_ne hn.2.2.2.2]
          exact k
set_option maxRecDepth 100000 in
set_option maxHeartbeats 4000000 in
theorem lX2_rs2 {l : Launch} {σ : zk_Sh} {L : zk_L} {n : Nat} (hn : zs_r σ n) {Q : Option Value → zk_M → zk_L → Prop}  : ∀ (m a : Nat) (M : zk_M), a + m = 8 → zk_R l σ 2 muX2_reckonSteps 65 [some (.ref n), none, none, none, none] [] (va_up M (σ.2.2.2 n 1) (zs_for (fun a T => zs_for (fun b T => va_up T (a * 8 + b) (zs_d0 (M (σ.2.2.2 n 0)) a b)) 8 0 T) m a (M (σ.2.2.2 n 1)))) L Q → zk_R l σ 2 muX2_reckonSteps 2 [some (.ref n), some (.int (nI a)), none, none, none] [] M L Q := by
  intro m
  induction m with
  | zero =>
    intro a M hi k
    obtain rfl : a = 8 := by omega
    refine zk_iload_n dX2_reckonSteps_2 rfl ?_
    refine zk_bipush dX2_reckonSteps_3 zb_8 ?_
    refine zk_icmp_ge (tgt := 65) dX2_reckonSteps_5 (by decide) (fun _ => ?_) (fun q => absurd (by decide) q)
    rw [zs_for, zs_up_self] at k
    refine zk_forget ?_ k
    exact ⟨Or.inr rfl, Or.inl rfl, Or.inl rfl, Or.inl rfl, Or.inl rfl, trivial⟩
  | succ m ih =>
    intro a M hi k
    have h8 : a < 8 := by omega
    refine zk_iload_n dX2_reckonSteps_2 rfl ?_
    refine zk_bipush dX2_reckonSteps_3 zb_8 ?_
    refine zk_icmp_ge (tgt := 65) dX2_reckonSteps_5 (by decide) (fun h5 => absurd h5 (nI_ge h8 (by decide))) (fun _ => ?_)
    refine zk_iconst dX2_reckonSteps_8 zc_0 ?_
    refine zk_istore_n dX2_reckonSteps_9 zk_S_2 ?_
    refine lX2_rs1 hn h8 8 0 M rfl ?_
    refine zk_iinc dX2_reckonSteps_59 zc_1 rfl zk_S_1 ?_
    refine zk_goto (tgt := 2) dX2_reckonSteps_62 (by decide) ?_
    rw [← nI_succ]
    refine ih (a + 1) _ (by omega) ?_
    rw [zs_up2, zk_up_eq, zk_up_ne hn.2.2.2.2]
    exact k
set_option maxRecDepth 100000 in
set_option maxHeartbeats 4000000 in
theorem lX2_rs3 {l : Launch} {σ : zk_Sh} {L : zk_L} {n : Nat} (hn : zs_r σ n) {Q : Option Value → zk_M → zk_L → Prop} {a kk : Nat} (ha : a < 8) (hk : kk < 8) : ∀ (m b : Nat) (M : zk_M), b + m = 8 → zk_R l σ 2 muX2_reckonSteps 147 [some (.ref n), some (.int (nI kk)), some (.int (nI a)), none, none] [] (va_up M (σ.2.2.2 n 1) (zs_for (fun b T => va_up T (a * 8 + b) (zs_min (T (a * 8 + b)) (T (a * 8 + kk) + T (kk * 8 + b)))) m b (M (σ.2.2.2 n 1)))) L Q → zk_R l σ 2 muX2_reckonSteps 83 [some (.ref n), some (.int (nI kk)), some (.int (nI a)), some (.int (nI b)), none] [] M L Q := by
  intro m
  induction m with
  | zero =>
    intro b M hi k
    obtain rfl : b = 8 := by omega
    refine zk_iload_n dX2_reckonSteps_83 rfl ?_
    refine zk_bipush dX2_reckonSteps_84 zb_8 ?_
    refine zk_icmp_ge (tgt := 147) dX2_reckonSteps_86 (by decide) (fun _ => ?_) (fun q => absurd (by decide) q)
    rw [zs_for, zs_up_self] at k
    refine zk_forget ?_ k
    exact ⟨Or.inr rfl, Or.inr rfl, Or.inr rfl, Or.inl rfl, Or.inl rfl, trivial⟩
  | succ m ih =>
    intro b M hi k
    have h8 : b < 8 := by omega
    refine zk_iload_n dX2_reckonSteps_83 rfl ?_
    refine zk_bipush dX2_reckonSteps_84 zb_8 ?_
    refine zk_icmp_ge (tgt := 147) dX2_reckonSteps_86 (by decide) (fun h86 => absurd h86 (nI_ge h8 (by decide))) (fun _ => ?_)
    refine zk_aload_n dX2_reckonSteps_89 rfl ?_
    refine zk_getR dX2_reckonSteps_90 fl_X2_15 hn.1 hn.2.1 rfl ?_
    refine zk_iload_n dX2_reckonSteps_93 rfl ?_
    refine zk_bipush dX2_reckonSteps_94 zb_8 ?_
    refine zk_imul dX2_reckonSteps_96 ?_
    refine zk_iload_n dX2_reckonSteps_97 rfl ?_
    refine zk_iadd dX2_reckonSteps_98 ?_
    refine zk_iald (j := a * 8 + kk) dX2_reckonSteps_99 hn.2.2.2.1.1 hn.2.2.2.1.2.1 (zs_in hn.2.2.2.1.2.2 (zs_ixin ha hk)) (zs_ixj ha hk) ?_
    refine zk_aload_n dX2_reckonSteps_100 rfl ?_
    refine zk_getR dX2_reckonSteps_101 fl_X2_15 hn.1 hn.2.1 rfl ?_
    refine zk_iload_n dX2_reckonSteps_104 rfl ?_
    refine zk_bipush dX2_reckonSteps_105 zb_8 ?_
    refine zk_imul dX2_reckonSteps_107 ?_
    refine zk_iload_n dX2_reckonSteps_108 rfl ?_
    refine zk_iadd dX2_reckonSteps_109 ?_
    refine zk_iald (j := kk * 8 + b) dX2_reckonSteps_110 hn.2.2.2.1.1 hn.2.2.2.1.2.1 (zs_in hn.2.2.2.1.2.2 (zs_ixin hk h8)) (zs_ixj hk h8) ?_
    refine zk_iadd dX2_reckonSteps_111 ?_
    refine zk_istore dX2_reckonSteps_112 zk_S_4 ?_
    refine zk_aload_n dX2_reckonSteps_114 rfl ?_
    refine zk_getR dX2_reckonSteps_115 fl_X2_15 hn.1 hn.2.1 rfl ?_
    refine zk_iload_n dX2_reckonSteps_118 rfl ?_
    refine zk_bipush dX2_reckonSteps_119 zb_8 ?_
    refine zk_imul dX2_reckonSteps_121 ?_
    refine zk_iload_n dX2_reckonSteps_122 rfl ?_
    refine zk_iadd dX2_reckonSteps_123 ?_
    refine zk_aload_n dX2_reckonSteps_124 rfl ?_
    refine zk_getR dX2_reckonSteps_125 fl_X2_15 hn.1 hn.2.1 rfl ?_
    refine zk_iload_n dX2_reckonSteps_128 rfl ?_
    refine zk_bipush dX2_reckonSteps_129 zb_8 ?_
    refine zk_imul dX2_reckonSteps_131 ?_
    refine zk_iload_n dX2_reckonSteps_132 rfl ?_
    refine zk_iadd dX2_reckonSteps_133 ?_
    refine zk_iald (j := a * 8 + b) dX2_reckonSteps_134 hn.2.2.2.1.1 hn.2.2.2.1.2.1 (zs_in hn.2.2.2.1.2.2 (zs_ixin ha h8)) (zs_ixj ha h8) ?_
    refine zk_iload dX2_reckonSteps_135 rfl ?_
    refine zk_mmin dX2_reckonSteps_137 ml_X2_50 st_mmin in_J9 co_mmin (by decide) (Nat.le_of_ble_eq_true rfl) ?_
    refine zk_iast (j := a * 8 + b) dX2_reckonSteps_140 hn.2.2.2.1.1 hn.2.2.2.1.2.1 (zs_in hn.2.2.2.1.2.2 (zs_ixin ha h8)) (zs_ixj ha h8) ?_
    refine zk_iinc dX2_reckonSteps_141 zc_1 rfl zk_S_3 ?_
    refine zk_goto (tgt := 83) dX2_reckonSteps_144 (by decide) ?_
    rw [← nI_succ]
    refine zk_forget ?_ (ih (b + 1) _ (by omega) ?_)
    · exact ⟨Or.inr rfl, Or.inr rfl, Or.inr rfl, Or.inr rfl, Or.inl rfl, trivial⟩
    · rw [zs_up2, zk_up_eq]
      exact k
set_option maxRecDepth 100000 in
set_option maxHeartbeats 4000000 in
theorem lX2_rs4 {l : Launch} {σ : zk_Sh} {L : zk_L} {n : Nat} (hn : zs_r σ n) {Q : Option Value → zk_M → zk_L → Prop} {kk : Nat} (hk : kk < 8) : ∀ (m a : Nat) (M : zk_M), a + m = 8 → zk_R l σ 2 muX2_reckonSteps 153 [some (.ref n), some (.int (nI kk)), none, none, none] [] (va_up M (σ.2.2.2 n 1) (zs_for (fun a T => zs_for (fun b T => va_up T (a * 8 + b) (zs_min (T (a * 8 + b)) (T (a * 8 + kk) + T (kk * 8 + b)))) 8 0 T) m a (M (σ.2.2.2 n 1)))) L Q → zk_R l σ 2 muX2_reckonSteps 75 [some (.ref n), some (.int (nI kk)), some (.int (nI a)), none, none] [] M L Q := by
  intro m
  induction m with
  | zero =>
    intro a M hi k
    obtain rfl : a = 8 := by omega
    refine zk_iload_n dX2_reckonSteps_75 rfl ?_
    refine zk_bipush dX2_reckonSteps_76 zb_8 ?_
    refine zk_icmp_ge (tgt := 153) dX2_reckonSteps_78 (by decide) (fun _ => ?_) (fun q => absurd (by decide) q)
    rw [zs_for, zs_up_self] at k
    refine zk_forget ?_ k
    exact ⟨Or.inr rfl, Or.inr rfl, Or.inl rfl, Or.inl rfl, Or.inl rfl, trivial⟩
  | succ m ih =>
    intro a M hi k
    have h8 : a < 8 := by omega
    refine zk_iload_n dX2_reckonSteps_75 rfl ?_
    refine zk_bipush dX2_reckonSteps_76 zb_8 ?_
    refine zk_icmp_ge (tgt := 153) dX2_reckonSteps_78 (by decide) (fun h78 => absurd h78 (nI_ge h8 (by decide))) (fun _ => ?_)
    refine zk_iconst dX2_reckonSteps_81 zc_0 ?_
    refine zk_istore_n dX2_reckonSteps_82 zk_S_3 ?_
    refine lX2_rs3 hn h8 hk 8 0 M rfl ?_
    refine zk_iinc dX2_reckonSteps_147 zc_1 rfl zk_S_2 ?_
    refine zk_goto (tgt := 75) dX2_reckonSteps_150 (by decide) ?_
    rw [← nI_succ]
    refine ih (a + 1) _ (by omega) ?_
    rw [zs_up2, zk_up_eq]
    exact k
set_option maxRecDepth 100000 in
set_option maxHeartbeats 4000000 in
theorem lX2_rs5 {l : Launch} {σ : zk_Sh} {L : zk_L} {n : Nat} (hn : zs_r σ n) {Q : Option Value → zk_M → zk_L → Prop}  : ∀ (m kk : Nat) (M : zk_M), kk + m = 8 → zk_R l σ 2 muX2_reckonSteps 159 [some (.ref n), none, none, none, none] [] (va_up M (σ.2.2.2 n 1) (zs_for (fun kk T => zs_for (fun a T => zs_for (fun b T => va_up T (a * 8 + b) (zs_min (T (a * 8 + b)) (T (a * 8 + kk) + T (kk * 8 + b)))) 8 0 T) 8 0 T) m kk (M (σ.2.2.2 n 1)))) L Q → zk_R l σ 2 muX2_reckonSteps 67 [some (.ref n), some (.int (nI kk)), none, none, none] [] M L Q := by
  intro m
  induction m with
  | zero =>
    intro kk M hi k
    obtain rfl : kk = 8 := by omega
    refine zk_iload_n dX2_reckonSteps_67 rfl ?_
    refine zk_bipush dX2_reckonSteps_68 zb_8 ?_
    refine zk_icmp_ge (tgt := 159) dX2_reckonSteps_70 (by decide) (fun _ => ?_) (fun q => absurd (by decide) q)
    rw [zs_for, zs_up_self] at k
    refine zk_forget ?_ k
    exact ⟨Or.inr rfl, Or.inl rfl, Or.inl rfl, Or.inl rfl, Or.inl rfl, trivial⟩
  | succ m ih =>
    intro kk M hi k
    have h8 : kk < 8 := by omega
    refine zk_iload_n dX2_reckonSteps_67 rfl ?_
    refine zk_bipush dX2_reckonSteps_68 zb_8 ?_
    refine zk_icmp_ge (tgt := 159) dX2_reckonSteps_70 (by decide) (fun h70 => absurd h70 (nI_ge h8 (by decide))) (fun _ => ?_)
    refine zk_iconst dX2_reckonSteps_73 zc_0 ?_
    refine zk_istore_n dX2_reckonSteps_74 zk_S_2 ?_
    refine lX2_rs4 hn h8 8 0 M rfl ?_
    refine zk_iinc dX2_reckonSteps_153 zc_1 rfl zk_S_1 ?_
    refine zk_goto (tgt := 67) dX2_reckonSteps_156 (by decide) ?_
    rw [← nI_succ]
    refine ih (kk + 1) _ (by omega) ?_
    rw [zs_up2, zk_up_eq]
    exact k
set_option maxRecDepth 100000 in
set_option maxHeartbeats 4000000 in
theorem qX2_reckonSteps {l : Launch} {σ : zk_Sh} {M : zk_M} {L : zk_L} {n : Nat} (hn : zs_r σ n) : zk_C l σ 2 muX2_reckonSteps [.ref n] M L (zk_Ev (va_up M (σ.2.2.2 n 1) (zs_fw (M (σ.2.2.2 n 0)) (M (σ.2.2.2 n 1)))) L) := by
  refine zk_ofR (ls := [some (.ref n), none, none, none, none]) (by decide) rfl (Nat.le_of_ble_eq_true rfl) rfl ?_
  refine zk_iconst dX2_reckonSteps_0 zc_0 ?_
  refine zk_istore_n dX2_reckonSteps_1 zk_S_1 ?_
  refine lX2_rs2 hn 8 0 M rfl ?_
  refine zk_iconst dX2_reckonSteps_65 zc_0 ?_
  refine zk_istore_n dX2_reckonSteps_66 zk_S_1 ?_
  refine lX2_rs5 hn 8 0 _ rfl ?_
  refine zk_vret rfl dX2_reckonSteps_159 ?_
  exact zk_Ev_of (by rw [zs_up2, zk_up_eq]; rfl) rfl
/-- a road turned between a and b -/
def zs_turn (J : Nat → Int32) (a b : Int32) : Nat → Int32 := va_up (va_up J a.toNatClampNeg (J a.toNatClampNeg ^^^ 1 <<< (b &&& 31))) b.toNatClampNeg (va_up J a.toNatClampNeg (J a.toNatClampNeg ^^^ 1 <<< (b &&& 31)) b.toNatClampNeg ^^^ 1 <<< (a &&& 31))
set_option maxRecDepth 100000 in
set_option maxHeartbeats 4000000 in
theorem qX2_change {l : Launch} {σ : zk_Sh} {M : zk_M} {L : zk_L} {n : Nat} (hn : zs_r σ n) {a b : Int32} (ha : zs_p a) (hb : zs_p b) (hab : ¬ a = b) : zk_C l σ 3 muX2_change [.ref n, .int a, .int b] M L (zk_Ev (va_up (va_up M (σ.2.2.2 n 0) (zs_turn (M (σ.2.2.2 n 0)) a b)) (σ.2.2.2 n 1) (zs_fw (zs_turn (M (σ.2.2.2 n 0)) a b) (M (σ.2.2.2 n 1)))) L) := by
  refine zk_ofR (ls := [some (.ref n), some (.int a), some (.int b)]) (by decide) rfl (Nat.le_of_ble_eq_true rfl) rfl ?_
  refine zk_iload_n dX2_change_0 rfl ?_
  refine zk_cNi (qX4_isPlace_t ha) dX2_change_1 miX4_isPlace nl_X2_27 stX4_isPlace rfl (by decide) rfl (Nat.le_of_ble_eq_true rfl) ?_
  refine zk_if_eq (tgt := 47) dX2_change_4 (by decide) (fun h4 => absurd h4 (by decide)) (fun _ => ?_)
  refine zk_iload_n dX2_change_7 rfl ?_
  refine zk_cNi (qX4_isPlace_t hb) dX2_change_8 miX4_isPlace nl_X2_27 stX4_isPlace rfl (by decide) rfl (Nat.le_of_ble_eq_true rfl) ?_
  refine zk_if_eq (tgt := 47) dX2_change_11 (by decide) (fun h11 => absurd h11 (by decide)) (fun _ => ?_)
  refine zk_iload_n dX2_change_14 rfl ?_
  refine zk_iload_n dX2_change_15 rfl ?_
  refine zk_icmp_eq (tgt := 47) dX2_change_16 (by decide) (fun h16 => absurd h16 (hab)) (fun _ => ?_)
  refine zk_aload_n dX2_change_19 rfl ?_
  refine zk_getR dX2_change_20 fl_X2_9 hn.1 hn.2.1 rfl ?_
  refine zk_iload_n dX2_change_23 rfl ?_
  refine zk_dup2 dX2_change_24 rfl rfl ?_
  refine zk_iald (j := _) dX2_change_25 hn.2.2.1.1 hn.2.2.1.2.1 (zs_in hn.2.2.1.2.2 (zs_pin ha)) rfl ?_
  refine zk_iconst dX2_change_26 zc_1 ?_
  refine zk_iload_n dX2_change_27 rfl ?_
  refine zk_ishl dX2_change_28 ?_
  refine zk_ixor dX2_change_29 ?_
  refine zk_iast (j := _) dX2_change_30 hn.2.2.1.1 hn.2.2.1.2.1 (zs_in hn.2.2.1.2.2 (zs_pin ha)) rfl ?_
  refine zk_aload_n dX2_change_31 rfl ?_
  refine zk_getR dX2_change_32 fl_X2_9 hn.1 hn.2.1 rfl ?_
  refine zk_iload_n dX2_change_35 rfl ?_
  refine zk_dup2 dX2_change_36 rfl rfl ?_
  refine zk_iald (j := _) dX2_change_37 hn.2.2.1.1 hn.2.2.1.2.1 (zs_in hn.2.2.1.2.2 (zs_pin hb)) rfl ?_
  refine zk_iconst dX2_change_38 zc_1 ?_
  refine zk_iload_n dX2_change_39 rfl ?_
  refine zk_ishl dX2_change_40 ?_
  refine zk_ixor dX2_change_41 ?_
  refine zk_iast (j := _) dX2_change_42 hn.2.2.1.1 hn.2.2.1.2.1 (zs_in hn.2.2.1.2.2 (zs_pin hb)) rfl ?_
  refine zk_aload_n dX2_change_43 rfl ?_
  refine zk_cVv (qX2_reckonSteps hn) dX2_change_44 mwX2_reckonSteps ml_X2_18 hn.1 hn.2.1 rfl (by decide) rfl (Nat.le_of_ble_eq_true rfl) ?_
  refine zk_vret rfl dX2_change_47 ?_
  refine zk_Ev_of ?_ rfl
  simp only [zk_up_eq, zs_up2, zk_up_ne hn.2.2.2.2.symm, zs_turn]
set_option maxRecDepth 100000 in
set_option maxHeartbeats 4000000 in
theorem qX2_becomes {l : Launch} {σ : zk_Sh} {M : zk_M} {L : zk_L} {n : Nat} (hn : zs_r σ n) {g : Nat} (hg : zs_r σ g) (h1 : σ.2.2.2 g 1 ≠ σ.2.2.2 n 0) : zk_C l σ 1 muX2_becomes [.ref n, .ref g] M L (zk_Ev (va_up (va_up M (σ.2.2.2 n 0) (zs_cp 8 (M (σ.2.2.2 g 0)) (M (σ.2.2.2 n 0)))) (σ.2.2.2 n 1) (zs_cp 64 (M (σ.2.2.2 g 1)) (M (σ.2.2.2 n 1)))) L) := by
  refine zk_ofR (ls := [some (.ref n), some (.ref g)]) (by decide) rfl (Nat.le_of_ble_eq_true rfl) rfl ?_
  refine zk_aload_n dX2_becomes_0 rfl ?_
  refine zk_getR dX2_becomes_1 fl_X2_9 hg.1 hg.2.1 rfl ?_
  refine zk_iconst dX2_becomes_4 zc_0 ?_
  refine zk_aload_n dX2_becomes_5 rfl ?_
  refine zk_getR dX2_becomes_6 fl_X2_9 hn.1 hn.2.1 rfl ?_
  refine zk_iconst dX2_becomes_9 zc_0 ?_
  refine zk_bipush dX2_becomes_10 zb_8 ?_
  refine zk_copy dX2_becomes_12 ml_X2_21 na_copy st_copy in_J10 hg.2.2.1.1 hg.2.2.1.2.1 hn.2.2.1.1 hn.2.2.1.2.1 (by decide) (by decide) (by decide) (by rw [hg.2.2.1.2.2]; decide) (by rw [hn.2.2.1.2.2]; decide) (by decide) (Nat.le_of_ble_eq_true rfl) ?_
  refine zk_aload_n dX2_becomes_15 rfl ?_
  refine zk_getR dX2_becomes_16 fl_X2_15 hg.1 hg.2.1 rfl ?_
  refine zk_iconst dX2_becomes_19 zc_0 ?_
  refine zk_aload_n dX2_becomes_20 rfl ?_
  refine zk_getR dX2_becomes_21 fl_X2_15 hn.1 hn.2.1 rfl ?_
  refine zk_iconst dX2_becomes_24 zc_0 ?_
  refine zk_bipush dX2_becomes_25 zb_64 ?_
  refine zk_copy dX2_becomes_27 ml_X2_21 na_copy st_copy in_J10 hg.2.2.2.1.1 hg.2.2.2.1.2.1 hn.2.2.2.1.1 hn.2.2.2.1.2.1 (by decide) (by decide) (by decide) (by rw [hg.2.2.2.1.2.2]; decide) (by rw [hn.2.2.2.1.2.2]; decide) (by decide) (Nat.le_of_ble_eq_true rfl) ?_
  refine zk_vret rfl dX2_becomes_30 ?_
  refine zk_Ev_of ?_ rfl
  rw [zk_up_ne h1, zk_up_ne hn.2.2.2.2.symm]
  have e8 : ∀ f g : Nat → Int32, va_cpy f g (0 : Int32).toNatClampNeg (0 : Int32).toNatClampNeg (8 : Int32).toNatClampNeg = zs_cp 8 f g := by
    intro f g
    funext i
    have e1 : (0 : Int32).toNatClampNeg = 0 := by decide
    have e2 : (8 : Int32).toNatClampNeg = 8 := by decide
    simp [va_cpy, zs_cp, e1, e2]
  have e64 : ∀ f g : Nat → Int32, va_cpy f g (0 : Int32).toNatClampNeg (0 : Int32).toNatClampNeg (64 : Int32).toNatClampNeg = zs_cp 64 f g := by
    intro f g
    funext i
    have e1 : (0 : Int32).toNatClampNeg = 0 := by decide
    have e2 : (64 : Int32).toNatClampNeg = 64 := by decide
    simp [va_cpy, zs_cp, e1, e2]
  rw [e8, e64]
end
section
theorem zb_6 : (Int8.ofInt 6).toInt32 = (6 : Int32) := by decide +kernel
theorem zs_999 : (Int16.ofInt 999).toInt32 = (999 : Int32) := by decide +kernel
def zs_c (σ : zk_Sh) (c : Nat) : Prop := c < σ.1 ∧ σ.2.1 c = 0 ∧ zs_r σ (σ.2.2.2 c 0) ∧ (σ.2.2.2 c 1 < σ.1 ∧ σ.2.1 (σ.2.2.2 c 1) = 102 ∧ σ.2.2.1 (σ.2.2.2 c 1) = 6) ∧ (∀ p, p < 6 → zs_h σ (σ.2.2.2 (σ.2.2.2 c 1) p)) ∧ ∀ p q, p < 6 → q < 6 → σ.2.2.2 (σ.2.2.2 c 1) p = σ.2.2.2 (σ.2.2.2 c 1) q → p = q
abbrev zs_isr (n r : Int32) : Prop := 0 ≤ r ∧ r < n
theorem zs_if0 {P : Prop} [Decidable P] (h : (if P then (1 : Int32) else 0) = 0) : ¬ P := fun q => absurd (h.symm.trans (if_pos q)) (by decide)
theorem zs_if1 {P : Prop} [Decidable P] (h : ¬ (if P then (1 : Int32) else 0) = 0) : P := Classical.byContradiction (fun q => h (if_neg q))
theorem zs_nar {P : Prop} [Decidable P] : narrow .boolean (.int (if P then (1 : Int32) else 0)) = .int (if P then (1 : Int32) else 0) := by split <;> decide
theorem zs_lt6 {n r : Int32} (h : r < n) (h6 : n ≤ 6) : ¬ 6 ≤ r := by
  rw [Int32.le_iff_toInt_le] at h6 ⊢
  rw [Int32.lt_iff_toInt_lt] at h
  omega
theorem zs_isr_of {n r : Int32} (h : zs_isr n r) (h6 : n ≤ 6) : ∃ p, p < 6 ∧ r = nI p := by
  have hl := zs_lt6 h.2 h6
  refine vp_in_of (vp_in_iff.mpr ⟨by simpa [Int32.le_iff_toInt_le] using h.1, ?_⟩) (by decide)
  rw [Int32.le_iff_toInt_le] at hl
  have e : (6 : Int32).toInt = 6 := rfl
  omega
theorem zs_ne_ch {σ : zk_Sh} {c h : Nat} (hc : σ.2.1 c = 0) (hh : zs_h σ h) : c ≠ h := fun e => by have := hh.2; rw [← e, hc] at this; cases this
set_option maxRecDepth 100000 in
set_option maxHeartbeats 4000000 in
theorem qX0_hasRider {l : Launch} {σ : zk_Sh} {M : zk_M} {L : zk_L} {c : Nat} (hc : zs_c σ c) {r : Int32} (h6 : M c 2 ≤ 6) : zk_C l σ 0 muX0_hasRider [.ref c, .int r] M L (zk_Ei (if zs_isr (M c 2) r then 1 else 0) M L) := by
  refine zk_ofR (ls := [some (.ref c), some (.int r)]) (by decide) rfl (Nat.le_of_ble_eq_true rfl) rfl ?_
  refine zk_iload_n dX0_hasRider_0 rfl ?_
  refine zk_if_lt (tgt := 22) dX0_hasRider_1 (by decide) (fun h1 => ?_) (fun h1 => ?_)
  · refine zk_iconst dX0_hasRider_22 zc_0 ?_
    refine zk_zret rfl (by decide) dX0_hasRider_23 ?_
    exact zk_Ei_of (by first | exact (if_pos ⟨Int32.not_lt.mp h1, Int32.not_le.mp h9⟩).symm | exact (if_neg (fun q => absurd q.1 (Int32.not_le.mpr h1))).symm | exact (if_neg (fun q => absurd q.2 (Int32.not_lt.mpr h9))).symm) rfl rfl
  · refine zk_iload_n dX0_hasRider_4 rfl ?_
    refine zk_aload_n dX0_hasRider_5 rfl ?_
    refine zk_getI dX0_hasRider_6 fl_X0_32 hc.1 hc.2.1 rfl ?_
    refine zk_icmp_ge (tgt := 22) dX0_hasRider_9 (by decide) (fun h9 => ?_) (fun h9 => ?_)
    · refine zk_iconst dX0_hasRider_22 zc_0 ?_
      refine zk_zret rfl (by decide) dX0_hasRider_23 ?_
      exact zk_Ei_of (by first | exact (if_pos ⟨Int32.not_lt.mp h1, Int32.not_le.mp h9⟩).symm | exact (if_neg (fun q => absurd q.1 (Int32.not_le.mpr h1))).symm | exact (if_neg (fun q => absurd q.2 (Int32.not_lt.mpr h9))).symm) rfl rfl
    · refine zk_iload_n dX0_hasRider_12 rfl ?_
      refine zk_bipush dX0_hasRider_13 zb_6 ?_
      refine zk_icmp_ge (tgt := 22) dX0_hasRider_15 (by decide) (fun h15 => absurd h15 (zs_lt6 (Int32.not_le.mp h9) h6)) (fun _ => ?_)
      refine zk_iconst dX0_hasRider_18 zc_1 ?_
      refine zk_goto (tgt := 23) dX0_hasRider_19 (by decide) ?_
      refine zk_zret rfl (by decide) dX0_hasRider_23 ?_
      exact zk_Ei_of (by first | exact (if_pos ⟨Int32.not_lt.mp h1, Int32.not_le.mp h9⟩).symm | exact (if_neg (fun q => absurd q.1 (Int32.not_le.mpr h1))).symm | exact (if_neg (fun q => absurd q.2 (Int32.not_lt.mpr h9))).symm) rfl rfl
set_option maxRecDepth 100000 in
set_option maxHeartbeats 4000000 in
theorem qX0_changeRoad_t {l : Launch} {σ : zk_Sh} {M : zk_M} {L : zk_L} {c : Nat} (hc : zs_c σ c) {a b : Int32} (ha : zs_p a) (hb : zs_p b) (hab : ¬ a = b) : zk_C l σ 4 muX0_changeRoad [.ref c, .int a, .int b] M L (zk_Ei 1 (va_up (va_up M (σ.2.2.2 (σ.2.2.2 c 0) 0) (zs_turn (M (σ.2.2.2 (σ.2.2.2 c 0) 0)) a b)) (σ.2.2.2 (σ.2.2.2 c 0) 1) (zs_fw (zs_turn (M (σ.2.2.2 (σ.2.2.2 c 0) 0)) a b) (M (σ.2.2.2 (σ.2.2.2 c 0) 1)))) L) := by
  refine zk_ofR (ls := [some (.ref c), some (.int a), some (.int b)]) (by decide) rfl (Nat.le_of_ble_eq_true rfl) rfl ?_
  refine zk_iload_n dX0_changeRoad_0 rfl ?_
  refine zk_cNi (qX4_isPlace_t ha) dX0_changeRoad_1 miX4_isPlace nl_X0_39 stX4_isPlace rfl (by decide) rfl (Nat.le_of_ble_eq_true rfl) ?_
  refine zk_if_eq (tgt := 19) dX0_changeRoad_4 (by decide) (fun h4 => absurd h4 (by decide)) (fun _ => ?_)
  refine zk_iload_n dX0_changeRoad_7 rfl ?_
  refine zk_cNi (qX4_isPlace_t hb) dX0_changeRoad_8 miX4_isPlace nl_X0_39 stX4_isPlace rfl (by decide) rfl (Nat.le_of_ble_eq_true rfl) ?_
  refine zk_if_eq (tgt := 19) dX0_changeRoad_11 (by decide) (fun h11 => absurd h11 (by decide)) (fun _ => ?_)
  refine zk_iload_n dX0_changeRoad_14 rfl ?_
  refine zk_iload_n dX0_changeRoad_15 rfl ?_
  refine zk_icmp_ne (tgt := 21) dX0_changeRoad_16 (by decide) (fun _ => ?_) (fun h16 => absurd h16 (hab))
  refine zk_aload_n dX0_changeRoad_21 rfl ?_
  refine zk_getR dX0_changeRoad_22 fl_X0_12 hc.1 hc.2.1 rfl ?_
  refine zk_iload_n dX0_changeRoad_25 rfl ?_
  refine zk_iload_n dX0_changeRoad_26 rfl ?_
  refine zk_cVv (qX2_change hc.2.2.1 ha hb hab) dX0_changeRoad_27 mwX2_change ml_X0_43 hc.2.2.1.1 hc.2.2.1.2.1 rfl (by decide) rfl (Nat.le_of_ble_eq_true rfl) ?_
  refine zk_iconst dX0_changeRoad_30 zc_1 ?_
  refine zk_zret rfl (by decide) dX0_changeRoad_31 ?_
  exact ⟨rfl, rfl, rfl⟩
set_option maxRecDepth 100000 in
set_option maxHeartbeats 4000000 in
theorem qX0_changeRoad_f {l : Launch} {σ : zk_Sh} {M : zk_M} {L : zk_L} {c : Nat} (hc : zs_c σ c) {a b : Int32} (hn : ¬ (zs_p a ∧ zs_p b ∧ ¬ a = b)) : zk_C l σ 4 muX0_changeRoad [.ref c, .int a, .int b] M L (zk_Ei 0 M L) := by
  refine zk_ofR (ls := [some (.ref c), some (.int a), some (.int b)]) (by decide) rfl (Nat.le_of_ble_eq_true rfl) rfl ?_
  refine zk_iload_n dX0_changeRoad_0 rfl ?_
  refine zk_cNi (qX4_isPlace) dX0_changeRoad_1 miX4_isPlace nl_X0_39 stX4_isPlace rfl (by decide) rfl (Nat.le_of_ble_eq_true rfl) ?_
  refine zk_if_eq (tgt := 19) dX0_changeRoad_4 (by decide) (fun h4 => ?_) (fun h4 => ?_)
  · have ha := zs_if0 h4
    refine zk_iconst dX0_changeRoad_19 zc_0 ?_
    refine zk_zret rfl (by decide) dX0_changeRoad_20 ?_
    exact ⟨rfl, rfl, rfl⟩
  · have ha := zs_if1 h4
    refine zk_iload_n dX0_changeRoad_7 rfl ?_
    refine zk_cNi (qX4_isPlace) dX0_changeRoad_8 miX4_isPlace nl_X0_39 stX4_isPlace rfl (by decide) rfl (Nat.le_of_ble_eq_true rfl) ?_
    refine zk_if_eq (tgt := 19) dX0_changeRoad_11 (by decide) (fun h11 => ?_) (fun h11 => ?_)
    · have hb := zs_if0 h11
      refine zk_iconst dX0_changeRoad_19 zc_0 ?_
      refine zk_zret rfl (by decide) dX0_changeRoad_20 ?_
      exact ⟨rfl, rfl, rfl⟩
    · have hb := zs_if1 h11
      refine zk_iload_n dX0_changeRoad_14 rfl ?_
      refine zk_iload_n dX0_changeRoad_15 rfl ?_
      refine zk_icmp_ne (tgt := 21) dX0_changeRoad_16 (by decide) (fun h16 => absurd (Classical.byContradiction (fun q => hn ⟨ha, hb, q⟩)) h16) (fun _ => ?_)
      refine zk_iconst dX0_changeRoad_19 zc_0 ?_
      refine zk_zret rfl (by decide) dX0_changeRoad_20 ?_
      exact ⟨rfl, rfl, rfl⟩
theorem qX0_hasRider_t {l : Launch} {σ : zk_Sh} {M : zk_M} {L : zk_L} {c : Nat} (hc : zs_c σ c) {r : Int32} (h6 : M c 2 ≤ 6) (hr : zs_isr (M c 2) r) : zk_C l σ 0 muX0_hasRider [.ref c, .int r] M L (zk_Ei 1 M L) := by
  have := qX0_hasRider (l := l) (L := L) hc (r := r) h6
  rwa [if_pos hr] at this
theorem qX0_hasRider_f {l : Launch} {σ : zk_Sh} {M : zk_M} {L : zk_L} {c : Nat} (hc : zs_c σ c) {r : Int32} (h6 : M c 2 ≤ 6) (hr : ¬ zs_isr (M c 2) r) : zk_C l σ 0 muX0_hasRider [.ref c, .int r] M L (zk_Ei 0 M L) := by
  have := qX0_hasRider (l := l) (L := L) hc (r := r) h6
  rwa [if_neg hr] at this
def zs_shod (f : Nat → Int32) : Nat → Int32 := va_up (va_up f 5 (zs_sk (f 0))) 6 0
set_option maxRecDepth 100000 in
set_option maxHeartbeats 4000000 in
theorem qX0_shoeAnew_t {l : Launch} {σ : zk_Sh} {M : zk_M} {L : zk_L} {c : Nat} (hc : zs_c σ c) {p : Nat} (hp : p < 6) (h6 : M c 2 ≤ 6) (hr : zs_isr (M c 2) (nI p)) : zk_C l σ 2 muX0_shoeAnew [.ref c, .int (nI p)] M L (zk_Ei 1 (va_up M (σ.2.2.2 (σ.2.2.2 c 1) p) (zs_shod (M (σ.2.2.2 (σ.2.2.2 c 1) p)))) L) := by
  refine zk_ofR (ls := [some (.ref c), some (.int (nI p))]) (by decide) rfl (Nat.le_of_ble_eq_true rfl) rfl ?_
  refine zk_aload_n dX0_shoeAnew_0 rfl ?_
  refine zk_iload_n dX0_shoeAnew_1 rfl ?_
  refine zk_cVi (qX0_hasRider_t hc h6 hr) dX0_shoeAnew_2 mwX0_hasRider ml_X0_65 hc.1 hc.2.1 rfl (by decide) rfl (Nat.le_of_ble_eq_true rfl) ?_
  refine zk_if_ne (tgt := 10) dX0_shoeAnew_5 (by decide) (fun _ => ?_) (fun h5 => absurd h5 (by decide))
  refine zk_aload_n dX0_shoeAnew_10 rfl ?_
  refine zk_getR dX0_shoeAnew_11 fl_X0_20 hc.1 hc.2.1 rfl ?_
  refine zk_iload_n dX0_shoeAnew_14 rfl ?_
  refine zk_aald (j := p) dX0_shoeAnew_15 hc.2.2.2.1.1 hc.2.2.2.1.2.1 (zs_in hc.2.2.2.1.2.2 (vp_in_nI hp (by decide))) (nI_clamp (by omega)) ?_
  refine zk_cVv (qX1_shoeAnew (hc.2.2.2.2.1 p hp)) dX0_shoeAnew_16 mwX1_shoeAnew ml_X0_62 (hc.2.2.2.2.1 p hp).1 (hc.2.2.2.2.1 p hp).2 rfl (by decide) rfl (Nat.le_of_ble_eq_true rfl) ?_
  refine zk_iconst dX0_shoeAnew_19 zc_1 ?_
  refine zk_zret rfl (by decide) dX0_shoeAnew_20 ?_
  exact ⟨rfl, rfl, rfl⟩
set_option maxRecDepth 100000 in
set_option maxHeartbeats 4000000 in
theorem qX0_shoeAnew_f {l : Launch} {σ : zk_Sh} {M : zk_M} {L : zk_L} {c : Nat} (hc : zs_c σ c) {r : Int32} (h6 : M c 2 ≤ 6) (hr : ¬ zs_isr (M c 2) r) : zk_C l σ 2 muX0_shoeAnew [.ref c, .int r] M L (zk_Ei 0 M L) := by
  refine zk_ofR (ls := [some (.ref c), some (.int r)]) (by decide) rfl (Nat.le_of_ble_eq_true rfl) rfl ?_
  refine zk_aload_n dX0_shoeAnew_0 rfl ?_
  refine zk_iload_n dX0_shoeAnew_1 rfl ?_
  refine zk_cVi (qX0_hasRider_f hc h6 hr) dX0_shoeAnew_2 mwX0_hasRider ml_X0_65 hc.1 hc.2.1 rfl (by decide) rfl (Nat.le_of_ble_eq_true rfl) ?_
  refine zk_if_ne (tgt := 10) dX0_shoeAnew_5 (by decide) (fun h5 => absurd (by decide) h5) (fun _ => ?_)
  refine zk_iconst dX0_shoeAnew_8 zc_0 ?_
  refine zk_zret rfl (by decide) dX0_shoeAnew_9 ?_
  exact ⟨rfl, rfl, rfl⟩
set_option maxRecDepth 100000 in
set_option maxHeartbeats 4000000 in
theorem qX0_setGoal_t {l : Launch} {σ : zk_Sh} {M : zk_M} {L : zk_L} {c : Nat} (hc : zs_c σ c) {p : Nat} (hp : p < 6) (h6 : M c 2 ≤ 6) (hr : zs_isr (M c 2) (nI p)) {x : Int32} (hx : zs_p x) : zk_C l σ 1 muX0_setGoal [.ref c, .int (nI p), .int x] M L (zk_Ei 1 (va_up M (σ.2.2.2 (σ.2.2.2 c 1) p) (va_up (M (σ.2.2.2 (σ.2.2.2 c 1) p)) 2 x)) L) := by
  refine zk_ofR (ls := [some (.ref c), some (.int (nI p)), some (.int x)]) (by decide) rfl (Nat.le_of_ble_eq_true rfl) rfl ?_
  refine zk_aload_n dX0_setGoal_0 rfl ?_
  refine zk_iload_n dX0_setGoal_1 rfl ?_
  refine zk_cVi (qX0_hasRider_t hc h6 hr) dX0_setGoal_2 mwX0_hasRider ml_X0_65 hc.1 hc.2.1 rfl (by decide) rfl (Nat.le_of_ble_eq_true rfl) ?_
  refine zk_if_eq (tgt := 15) dX0_setGoal_5 (by decide) (fun h5 => absurd h5 (by decide)) (fun _ => ?_)
  refine zk_iload_n dX0_setGoal_8 rfl ?_
  refine zk_cNi (qX4_isPlace_t hx) dX0_setGoal_9 miX4_isPlace nl_X0_39 stX4_isPlace rfl (by decide) rfl (Nat.le_of_ble_eq_true rfl) ?_
  refine zk_if_ne (tgt := 17) dX0_setGoal_12 (by decide) (fun _ => ?_) (fun h12 => absurd h12 (by decide))
  refine zk_aload_n dX0_setGoal_17 rfl ?_
  refine zk_getR dX0_setGoal_18 fl_X0_20 hc.1 hc.2.1 rfl ?_
  refine zk_iload_n dX0_setGoal_21 rfl ?_
  refine zk_aald (j := p) dX0_setGoal_22 hc.2.2.2.1.1 hc.2.2.2.1.2.1 (zs_in hc.2.2.2.1.2.2 (vp_in_nI hp (by decide))) (nI_clamp (by omega)) ?_
  refine zk_iload_n dX0_setGoal_23 rfl ?_
  refine zk_putG dX0_setGoal_24 fl_X0_53 ft_1_2 rfl rfl (hc.2.2.2.2.1 p hp).1 (hc.2.2.2.2.1 p hp).2 rfl ?_
  refine zk_iconst dX0_setGoal_27 zc_1 ?_
  refine zk_zret rfl (by decide) dX0_setGoal_28 ?_
  exact ⟨rfl, rfl, rfl⟩
set_option maxRecDepth 100000 in
set_option maxHeartbeats 4000000 in
theorem qX0_setGoal_f {l : Launch} {σ : zk_Sh} {M : zk_M} {L : zk_L} {c : Nat} (hc : zs_c σ c) {r x : Int32} (h6 : M c 2 ≤ 6) (hn : ¬ (zs_isr (M c 2) r ∧ zs_p x)) : zk_C l σ 1 muX0_setGoal [.ref c, .int r, .int x] M L (zk_Ei 0 M L) := by
  refine zk_ofR (ls := [some (.ref c), some (.int r), some (.int x)]) (by decide) rfl (Nat.le_of_ble_eq_true rfl) rfl ?_
  refine zk_aload_n dX0_setGoal_0 rfl ?_
  refine zk_iload_n dX0_setGoal_1 rfl ?_
  refine zk_cVi (qX0_hasRider hc h6) dX0_setGoal_2 mwX0_hasRider ml_X0_65 hc.1 hc.2.1 rfl (by decide) rfl (Nat.le_of_ble_eq_true rfl) ?_
  refine zk_if_eq (tgt := 15) dX0_setGoal_5 (by decide) (fun h5 => ?_) (fun h5 => ?_)
  · have hr := zs_if0 h5
    refine zk_iconst dX0_setGoal_15 zc_0 ?_
    refine zk_zret rfl (by decide) dX0_setGoal_16 ?_
    exact ⟨rfl, rfl, rfl⟩
  · have hr := zs_if1 h5
    refine zk_iload_n dX0_setGoal_8 rfl ?_
    refine zk_cNi (qX4_isPlace) dX0_setGoal_9 miX4_isPlace nl_X0_39 stX4_isPlace rfl (by decide) rfl (Nat.le_of_ble_eq_true rfl) ?_
    refine zk_if_ne (tgt := 17) dX0_setGoal_12 (by decide) (fun h12 => ?_) (fun h12 => ?_)
    · have hx := zs_if1 h12
      exact absurd ⟨hr, hx⟩ hn
    · have hx := zs_if0 h12
      refine zk_iconst dX0_setGoal_15 zc_0 ?_
      refine zk_zret rfl (by decide) dX0_setGoal_16 ?_
      exact ⟨rfl, rfl, rfl⟩
set_option maxRecDepth 100000 in
set_option maxHeartbeats 4000000 in
theorem qX0_setAt_t {l : Launch} {σ : zk_Sh} {M : zk_M} {L : zk_L} {c : Nat} (hc : zs_c σ c) {p : Nat} (hp : p < 6) (h6 : M c 2 ≤ 6) (hr : zs_isr (M c 2) (nI p)) {x : Int32} (hx : zs_p x) : zk_C l σ 1 muX0_setAt [.ref c, .int (nI p), .int x] M L (zk_Ei 1 (va_up M (σ.2.2.2 (σ.2.2.2 c 1) p) (va_up (M (σ.2.2.2 (σ.2.2.2 c 1) p)) 4 x)) L) := by
  refine zk_ofR (ls := [some (.ref c), some (.int (nI p)), some (.int x)]) (by decide) rfl (Nat.le_of_ble_eq_true rfl) rfl ?_
  refine zk_aload_n dX0_setAt_0 rfl ?_
  refine zk_iload_n dX0_setAt_1 rfl ?_
  refine zk_cVi (qX0_hasRider_t hc h6 hr) dX0_setAt_2 mwX0_hasRider ml_X0_65 hc.1 hc.2.1 rfl (by decide) rfl (Nat.le_of_ble_eq_true rfl) ?_
  refine zk_if_eq (tgt := 15) dX0_setAt_5 (by decide) (fun h5 => absurd h5 (by decide)) (fun _ => ?_)
  refine zk_iload_n dX0_setAt_8 rfl ?_
  refine zk_cNi (qX4_isPlace_t hx) dX0_setAt_9 miX4_isPlace nl_X0_39 stX4_isPlace rfl (by decide) rfl (Nat.le_of_ble_eq_true rfl) ?_
  refine zk_if_ne (tgt := 17) dX0_setAt_12 (by decide) (fun _ => ?_) (fun h12 => absurd h12 (by decide))
  refine zk_aload_n dX0_setAt_17 rfl ?_
  refine zk_getR dX0_setAt_18 fl_X0_20 hc.1 hc.2.1 rfl ?_
  refine zk_iload_n dX0_setAt_21 rfl ?_
  refine zk_aald (j := p) dX0_setAt_22 hc.2.2.2.1.1 hc.2.2.2.1.2.1 (zs_in hc.2.2.2.1.2.2 (vp_in_nI hp (by decide))) (nI_clamp (by omega)) ?_
  refine zk_iload_n dX0_setAt_23 rfl ?_
  refine zk_putG dX0_setAt_24 fl_X0_59 ft_1_4 rfl rfl (hc.2.2.2.2.1 p hp).1 (hc.2.2.2.2.1 p hp).2 rfl ?_
  refine zk_iconst dX0_setAt_27 zc_1 ?_
  refine zk_zret rfl (by decide) dX0_setAt_28 ?_
  exact ⟨rfl, rfl, rfl⟩
set_option maxRecDepth 100000 in
set_option maxHeartbeats 4000000 in
theorem qX0_setAt_f {l : Launch} {σ : zk_Sh} {M : zk_M} {L : zk_L} {c : Nat} (hc : zs_c σ c) {r x : Int32} (h6 : M c 2 ≤ 6) (hn : ¬ (zs_isr (M c 2) r ∧ zs_p x)) : zk_C l σ 1 muX0_setAt [.ref c, .int r, .int x] M L (zk_Ei 0 M L) := by
  refine zk_ofR (ls := [some (.ref c), some (.int r), some (.int x)]) (by decide) rfl (Nat.le_of_ble_eq_true rfl) rfl ?_
  refine zk_aload_n dX0_setAt_0 rfl ?_
  refine zk_iload_n dX0_setAt_1 rfl ?_
  refine zk_cVi (qX0_hasRider hc h6) dX0_setAt_2 mwX0_hasRider ml_X0_65 hc.1 hc.2.1 rfl (by decide) rfl (Nat.le_of_ble_eq_true rfl) ?_
  refine zk_if_eq (tgt := 15) dX0_setAt_5 (by decide) (fun h5 => ?_) (fun h5 => ?_)
  · have hr := zs_if0 h5
    refine zk_iconst dX0_setAt_15 zc_0 ?_
    refine zk_zret rfl (by decide) dX0_setAt_16 ?_
    exact ⟨rfl, rfl, rfl⟩
  · have hr := zs_if1 h5
    refine zk_iload_n dX0_setAt_8 rfl ?_
    refine zk_cNi (qX4_isPlace) dX0_setAt_9 miX4_isPlace nl_X0_39 stX4_isPlace rfl (by decide) rfl (Nat.le_of_ble_eq_true rfl) ?_
    refine zk_if_ne (tgt := 17) dX0_setAt_12 (by decide) (fun h12 => ?_) (fun h12 => ?_)
    · have hx := zs_if1 h12
      exact absurd ⟨hr, hx⟩ hn
    · have hx := zs_if0 h12
      refine zk_iconst dX0_setAt_15 zc_0 ?_
      refine zk_zret rfl (by decide) dX0_setAt_16 ?_
      exact ⟨rfl, rfl, rfl⟩
def zs_new (f : Nat → Int32) (k g w s a : Int32) : Nat → Int32 := zs_shod (va_up (va_up (va_up (va_up (va_up f 0 k) 1 g) 2 w) 3 s) 4 a)
set_option maxRecDepth 100000 in
set_option maxHeartbeats 4000000 in
theorem qX0_addRider_t {l : Launch} {σ : zk_Sh} {M : zk_M} {L : zk_L} {c : Nat} (hc : zs_c σ c) {p : Nat} (hp : p < 6) (hcnt : M c 2 = nI p) {kd g x y z : Int32} (hx : zs_p x) (hy : zs_p y) (hz : zs_p z) : zk_C l σ 2 muX0_addRider [.ref c, .int kd, .int g, .int x, .int y, .int z] M L (zk_Ei 1 (va_up (va_up M (σ.2.2.2 (σ.2.2.2 c 1) p) (zs_new (M (σ.2.2.2 (σ.2.2.2 c 1) p)) kd g x y z)) c (va_up (M c) 2 (M c 2 + 1))) L) := by
  refine zk_ofR (ls := [some (.ref c), some (.int kd), some (.int g), some (.int x), some (.int y), some (.int z), none]) (by decide) rfl (Nat.le_of_ble_eq_true rfl) rfl ?_
  refine zk_aload_n dX0_addRider_0 rfl ?_
  refine zk_getI dX0_addRider_1 fl_X0_32 hc.1 hc.2.1 rfl ?_
  refine zk_bipush dX0_addRider_4 zb_6 ?_
  refine zk_icmp_ge (tgt := 32) dX0_addRider_6 (by decide) (fun h6 => absurd h6 (by rw [hcnt]; exact nI_ge hp (by decide))) (fun _ => ?_)
  refine zk_iload_n dX0_addRider_9 rfl ?_
  refine zk_cNi (qX4_isPlace_t hx) dX0_addRider_10 miX4_isPlace nl_X0_39 stX4_isPlace rfl (by decide) rfl (Nat.le_of_ble_eq_true rfl) ?_
  refine zk_if_eq (tgt := 32) dX0_addRider_13 (by decide) (fun h13 => absurd h13 (by decide)) (fun _ => ?_)
  refine zk_iload dX0_addRider_16 rfl ?_
  refine zk_cNi (qX4_isPlace_t hy) dX0_addRider_18 miX4_isPlace nl_X0_39 stX4_isPlace rfl (by decide) rfl (Nat.le_of_ble_eq_true rfl) ?_
  refine zk_if_eq (tgt := 32) dX0_addRider_21 (by decide) (fun h21 => absurd h21 (by decide)) (fun _ => ?_)
  refine zk_iload dX0_addRider_24 rfl ?_
  refine zk_cNi (qX4_isPlace_t hz) dX0_addRider_26 miX4_isPlace nl_X0_39 stX4_isPlace rfl (by decide) rfl (Nat.le_of_ble_eq_true rfl) ?_
  refine zk_if_ne (tgt := 34) dX0_addRider_29 (by decide) (fun _ => ?_) (fun h29 => absurd h29 (by decide))
  refine zk_aload_n dX0_addRider_34 rfl ?_
  refine zk_getR dX0_addRider_35 fl_X0_20 hc.1 hc.2.1 rfl ?_
  refine zk_aload_n dX0_addRider_38 rfl ?_
  refine zk_getI dX0_addRider_39 fl_X0_32 hc.1 hc.2.1 rfl ?_
  rw [hcnt]
  refine zk_aald (j := p) dX0_addRider_42 hc.2.2.2.1.1 hc.2.2.2.1.2.1 (zs_in hc.2.2.2.1.2.2 (vp_in_nI hp (by decide))) (nI_clamp (by omega)) ?_
  refine zk_astore dX0_addRider_43 zk_S_6 ?_
  refine zk_aload dX0_addRider_45 rfl ?_
  refine zk_iload_n dX0_addRider_47 rfl ?_
  refine zk_putG dX0_addRider_48 fl_X0_47 ft_1_0 rfl rfl (hc.2.2.2.2.1 p hp).1 (hc.2.2.2.2.1 p hp).2 rfl ?_
  refine zk_aload dX0_addRider_51 rfl ?_
  refine zk_iload_n dX0_addRider_53 rfl ?_
  refine zk_putG dX0_addRider_54 fl_X0_50 ft_1_1 rfl rfl (hc.2.2.2.2.1 p hp).1 (hc.2.2.2.2.1 p hp).2 rfl ?_
  refine zk_aload dX0_addRider_57 rfl ?_
  refine zk_iload_n dX0_addRider_59 rfl ?_
  refine zk_putG dX0_addRider_60 fl_X0_53 ft_1_2 rfl rfl (hc.2.2.2.2.1 p hp).1 (hc.2.2.2.2.1 p hp).2 rfl ?_
  refine zk_aload dX0_addRider_63 rfl ?_
  refine zk_iload dX0_addRider_65 rfl ?_
  refine zk_putG dX0_addRider_67 fl_X0_56 ft_1_3 rfl rfl (hc.2.2.2.2.1 p hp).1 (hc.2.2.2.2.1 p hp).2 rfl ?_
  refine zk_aload dX0_addRider_70 rfl ?_
  refine zk_iload dX0_addRider_72 rfl ?_
  refine zk_putG dX0_addRider_74 fl_X0_59 ft_1_4 rfl rfl (hc.2.2.2.2.1 p hp).1 (hc.2.2.2.2.1 p hp).2 rfl ?_
  refine zk_aload dX0_addRider_77 rfl ?_
  refine zk_cVv (qX1_shoeAnew (hc.2.2.2.2.1 p hp)) dX0_addRider_79 mwX1_shoeAnew ml_X0_62 (hc.2.2.2.2.1 p hp).1 (hc.2.2.2.2.1 p hp).2 rfl (by decide) rfl (Nat.le_of_ble_eq_true rfl) ?_
  refine zk_aload_n dX0_addRider_82 rfl ?_
  refine zk_dup dX0_addRider_83 rfl ?_
  refine zk_getI dX0_addRider_84 fl_X0_32 hc.1 hc.2.1 rfl ?_
  refine zk_iconst dX0_addRider_87 zc_1 ?_
  refine zk_iadd dX0_addRider_88 ?_
  refine zk_putG dX0_addRider_89 fl_X0_32 ft_0_2 rfl rfl hc.1 hc.2.1 rfl ?_
  refine zk_iconst dX0_addRider_92 zc_1 ?_
  refine zk_zret rfl (by decide) dX0_addRider_93 ?_
  refine zk_Ei_of rfl ?_ rfl
  simp only [zk_up_eq, zs_up2, zk_up_ne (zs_ne_ch hc.2.1 (hc.2.2.2.2.1 p hp)), zs_new, zs_shod]
  rw [hcnt]
set_option maxRecDepth 100000 in
set_option maxHeartbeats 4000000 in
theorem qX0_addRider_f {l : Launch} {σ : zk_Sh} {M : zk_M} {L : zk_L} {c : Nat} (hc : zs_c σ c) {kd g x y z : Int32} (hn : ¬ (M c 2 < 6 ∧ zs_p x ∧ zs_p y ∧ zs_p z)) : zk_C l σ 2 muX0_addRider [.ref c, .int kd, .int g, .int x, .int y, .int z] M L (zk_Ei 0 M L) := by
  refine zk_ofR (ls := [some (.ref c), some (.int kd), some (.int g), some (.int x), some (.int y), some (.int z), none]) (by decide) rfl (Nat.le_of_ble_eq_true rfl) rfl ?_
  refine zk_aload_n dX0_addRider_0 rfl ?_
  refine zk_getI dX0_addRider_1 fl_X0_32 hc.1 hc.2.1 rfl ?_
  refine zk_bipush dX0_addRider_4 zb_6 ?_
  refine zk_icmp_ge (tgt := 32) dX0_addRider_6 (by decide) (fun h6 => ?_) (fun h6 => ?_)
  · refine zk_iconst dX0_addRider_32 zc_0 ?_
    refine zk_zret rfl (by decide) dX0_addRider_33 ?_
    exact ⟨rfl, rfl, rfl⟩
  · refine zk_iload_n dX0_addRider_9 rfl ?_
    refine zk_cNi (qX4_isPlace) dX0_addRider_10 miX4_isPlace nl_X0_39 stX4_isPlace rfl (by decide) rfl (Nat.le_of_ble_eq_true rfl) ?_
    refine zk_if_eq (tgt := 32) dX0_addRider_13 (by decide) (fun h13 => ?_) (fun h13 => ?_)
    · have hx := zs_if0 h13
      refine zk_iconst dX0_addRider_32 zc_0 ?_
      refine zk_zret rfl (by decide) dX0_addRider_33 ?_
      exact ⟨rfl, rfl, rfl⟩
    · have hx := zs_if1 h13
      refine zk_iload dX0_addRider_16 rfl ?_
      refine zk_cNi (qX4_isPlace) dX0_addRider_18 miX4_isPlace nl_X0_39 stX4_isPlace rfl (by decide) rfl (Nat.le_of_ble_eq_true rfl) ?_
      refine zk_if_eq (tgt := 32) dX0_addRider_21 (by decide) (fun h21 => ?_) (fun h21 => ?_)
      · have hy := zs_if0 h21
        refine zk_iconst dX0_addRider_32 zc_0 ?_
        refine zk_zret rfl (by decide) dX0_addRider_33 ?_
        exact ⟨rfl, rfl, rfl⟩
      · have hy := zs_if1 h21
        refine zk_iload dX0_addRider_24 rfl ?_
        refine zk_cNi (qX4_isPlace) dX0_addRider_26 miX4_isPlace nl_X0_39 stX4_isPlace rfl (by decide) rfl (Nat.le_of_ble_eq_true rfl) ?_
        refine zk_if_ne (tgt := 34) dX0_addRider_29 (by decide) (fun h29 => ?_) (fun h29 => ?_)
        · have hz := zs_if1 h29
          exact absurd ⟨Int32.not_le.mp h6, hx, hy, hz⟩ hn
        · have hz := zs_if0 h29
          refine zk_iconst dX0_addRider_32 zc_0 ?_
          refine zk_zret rfl (by decide) dX0_addRider_33 ?_
          exact ⟨rfl, rfl, rfl⟩
def zs_dis (σ : zk_Sh) (c g : Nat) : Prop := c ≠ g ∧ (∀ p q, p < 6 → q < 6 → σ.2.2.2 (σ.2.2.2 g 1) q ≠ σ.2.2.2 (σ.2.2.2 c 1) p) ∧ σ.2.2.2 (σ.2.2.2 g 0) 1 ≠ σ.2.2.2 (σ.2.2.2 c 0) 0
set_option maxRecDepth 100000 in
set_option maxHeartbeats 4000000 in
theorem lX0_becomes {l : Launch} {σ : zk_Sh} {L : zk_L} {c : Nat} (hc : zs_c σ c) {g : Nat} (hg : zs_c σ g) (hd : zs_dis σ c g) {Q : Option Value → zk_M → zk_L → Prop} : ∀ (m p : Nat) (M : zk_M), p + m = 6 → zk_R l σ 2 muX0_becomes 40 [some (.ref c), some (.ref g), none] [] (zs_for (fun p M => va_up M (σ.2.2.2 (σ.2.2.2 c 1) p) (zs_cp 7 (M (σ.2.2.2 (σ.2.2.2 g 1) p)) (M (σ.2.2.2 (σ.2.2.2 c 1) p)))) m p M) L Q → zk_R l σ 2 muX0_becomes 13 [some (.ref c), some (.ref g), some (.int (nI p))] [] M L Q := by
  intro m
  induction m with
  | zero =>
    intro p M hi k
    obtain rfl : p = 6 := by omega
    refine zk_iload_n dX0_becomes_13 rfl ?_
    refine zk_bipush (v := 6) dX0_becomes_14 (by decide) ?_
    refine zk_icmp_ge (tgt := 40) dX0_becomes_16 (by decide) (fun _ => ?_) (fun q => absurd (by decide) q)
    refine zk_forget ?_ k
    exact ⟨Or.inr rfl, Or.inr rfl, Or.inl rfl, trivial⟩
  | succ m ih =>
    intro p M hi k
    have hp : p < 6 := by omega
    refine zk_iload_n dX0_becomes_13 rfl ?_
    refine zk_bipush dX0_becomes_14 zb_6 ?_
    refine zk_icmp_ge (tgt := 40) dX0_becomes_16 (by decide) (fun h16 => absurd h16 (nI_ge hp (by decide))) (fun _ => ?_)
    refine zk_aload_n dX0_becomes_19 rfl ?_
    refine zk_getR dX0_becomes_20 fl_X0_20 hc.1 hc.2.1 rfl ?_
    refine zk_iload_n dX0_becomes_23 rfl ?_
    refine zk_aald (j := p) dX0_becomes_24 hc.2.2.2.1.1 hc.2.2.2.1.2.1 (zs_in hc.2.2.2.1.2.2 (vp_in_nI hp (by decide))) (nI_clamp (by omega)) ?_
    refine zk_aload_n dX0_becomes_25 rfl ?_
    refine zk_getR dX0_becomes_26 fl_X0_20 hg.1 hg.2.1 rfl ?_
    refine zk_iload_n dX0_becomes_29 rfl ?_
    refine zk_aald (j := p) dX0_becomes_30 hg.2.2.2.1.1 hg.2.2.2.1.2.1 (zs_in hg.2.2.2.1.2.2 (vp_in_nI hp (by decide))) (nI_clamp (by omega)) ?_
    refine zk_cVv (qX1_becomes (hc.2.2.2.2.1 p hp) (hg.2.2.2.2.1 p hp) (hd.2.1 p p hp hp)) dX0_becomes_31 mwX1_becomes ml_X0_29 (hc.2.2.2.2.1 p hp).1 (hc.2.2.2.2.1 p hp).2 rfl (by decide) rfl (Nat.le_of_ble_eq_true rfl) ?_
    refine zk_iinc dX0_becomes_34 zc_1 rfl zk_S_2 ?_
    refine zk_goto (tgt := 13) dX0_becomes_37 (by decide) ?_
    rw [← nI_succ]
    refine ih (p + 1) _ (by omega) ?_
    exact k
def zs_cbec (σ : zk_Sh) (c g : Nat) (M : zk_M) : zk_M := zs_for (fun p M => va_up M (σ.2.2.2 (σ.2.2.2 c 1) p) (zs_cp 7 (M (σ.2.2.2 (σ.2.2.2 g 1) p)) (M (σ.2.2.2 (σ.2.2.2 c 1) p)))) 6 0 (va_up (va_up M (σ.2.2.2 (σ.2.2.2 c 0) 0) (zs_cp 8 (M (σ.2.2.2 (σ.2.2.2 g 0) 0)) (M (σ.2.2.2 (σ.2.2.2 c 0) 0)))) (σ.2.2.2 (σ.2.2.2 c 0) 1) (zs_cp 64 (M (σ.2.2.2 (σ.2.2.2 g 0) 1)) (M (σ.2.2.2 (σ.2.2.2 c 0) 1))))
def zs_cbec2 (σ : zk_Sh) (c g : Nat) (M : zk_M) : zk_M := va_up M c (va_up (va_up (M c) 2 (M g 2)) 3 (M g 3))
set_option maxRecDepth 100000 in
set_option maxHeartbeats 4000000 in
theorem qX0_becomes {l : Launch} {σ : zk_Sh} {M : zk_M} {L : zk_L} {c : Nat} (hc : zs_c σ c) {g : Nat} (hg : zs_c σ g) (hd : zs_dis σ c g) : zk_C l σ 2 muX0_becomes [.ref c, .ref g] M L (zk_Ev (zs_cbec2 σ c g (zs_cbec σ c g M)) L) := by
  refine zk_ofR (ls := [some (.ref c), some (.ref g), none]) (by decide) rfl (Nat.le_of_ble_eq_true rfl) rfl ?_
  refine zk_aload_n dX0_becomes_0 rfl ?_
  refine zk_getR dX0_becomes_1 fl_X0_12 hc.1 hc.2.1 rfl ?_
  refine zk_aload_n dX0_becomes_4 rfl ?_
  refine zk_getR dX0_becomes_5 fl_X0_12 hg.1 hg.2.1 rfl ?_
  refine zk_cVv (qX2_becomes hc.2.2.1 hg.2.2.1 hd.2.2) dX0_becomes_8 mwX2_becomes ml_X0_25 hc.2.2.1.1 hc.2.2.1.2.1 rfl (by decide) rfl (Nat.le_of_ble_eq_true rfl) ?_
  refine zk_iconst dX0_becomes_11 zc_0 ?_
  refine zk_istore_n dX0_becomes_12 zk_S_2 ?_
  refine lX0_becomes hc hg hd 6 0 _ rfl ?_
  refine zk_aload_n dX0_becomes_40 rfl ?_
  refine zk_aload_n dX0_becomes_41 rfl ?_
  refine zk_getI dX0_becomes_42 fl_X0_32 hg.1 hg.2.1 rfl ?_
  refine zk_putG dX0_becomes_45 fl_X0_32 ft_0_2 rfl rfl hc.1 hc.2.1 rfl ?_
  refine zk_aload_n dX0_becomes_48 rfl ?_
  refine zk_aload_n dX0_becomes_49 rfl ?_
  refine zk_getI dX0_becomes_50 fl_X0_36 hg.1 hg.2.1 rfl ?_
  refine zk_putG dX0_becomes_53 fl_X0_36 ft_0_3 rfl rfl hc.1 hc.2.1 rfl ?_
  refine zk_vret rfl dX0_becomes_56 ?_
  refine zk_Ev_of ?_ rfl
  simp only [zk_up_eq, zs_up2, zk_up_ne hd.1.symm]
  rfl
set_option maxRecDepth 100000 in
set_option maxHeartbeats 4000000 in
theorem lX0_pass1 {l : Launch} {σ : zk_Sh} {L : zk_L} {c : Nat} (hc : zs_c σ c) {p : Nat} (hp : p < 6) {t : Nat} (ht : t < 2 ^ 31) {Q : Option Value → zk_M → zk_L → Prop} : ∀ (m i : Nat) (M : zk_M), i + m = t → zs_ok (M (σ.2.2.2 (σ.2.2.2 c 1) p)) → zk_R l σ 4 muX0_passDays 71 [some (.ref c), some (.int (nI t)), some (.int (nI p)), none] [] (va_up M (σ.2.2.2 (σ.2.2.2 c 1) p) (zs_rides (M (σ.2.2.2 (σ.2.2.2 c 0) 0)) (M (σ.2.2.2 (σ.2.2.2 c 0) 1)) m (M (σ.2.2.2 (σ.2.2.2 c 1) p)))) L Q → zk_R l σ 4 muX0_passDays 47 [some (.ref c), some (.int (nI t)), some (.int (nI p)), some (.int (nI i))] [] M L Q := by
  intro m
  induction m with
  | zero =>
    intro i M hi ok k
    obtain rfl : i = t := by omega
    refine zk_iload_n dX0_passDays_47 rfl ?_
    refine zk_iload_n dX0_passDays_48 rfl ?_
    refine zk_icmp_ge (tgt := 71) dX0_passDays_49 (by decide) (fun _ => ?_) (fun q => absurd (nI_le (Nat.le_refl _) ht) q)
    rw [zs_rides, zs_up_self] at k
    refine zk_forget ?_ k
    exact ⟨Or.inr rfl, Or.inr rfl, Or.inr rfl, Or.inl rfl, trivial⟩
  | succ m ih =>
    intro i M hi ok k
    have hi : i < t := by omega
    refine zk_iload_n dX0_passDays_47 rfl ?_
    refine zk_iload_n dX0_passDays_48 rfl ?_
    refine zk_icmp_ge (tgt := 71) dX0_passDays_49 (by decide) (fun h49 => absurd h49 (nI_ge hi (by omega))) (fun _ => ?_)
    refine zk_aload_n dX0_passDays_52 rfl ?_
    refine zk_getR dX0_passDays_53 fl_X0_20 hc.1 hc.2.1 rfl ?_
    refine zk_iload_n dX0_passDays_56 rfl ?_
    refine zk_aald (j := p) dX0_passDays_57 hc.2.2.2.1.1 hc.2.2.2.1.2.1 (zs_in hc.2.2.2.1.2.2 (vp_in_nI hp (by decide))) (nI_clamp (by omega)) ?_
    refine zk_aload_n dX0_passDays_58 rfl ?_
    refine zk_getR dX0_passDays_59 fl_X0_12 hc.1 hc.2.1 rfl ?_
    refine zk_cVv (qX1_rideDay (hc.2.2.2.2.1 p hp) hc.2.2.1 ok) dX0_passDays_62 mwX1_rideDay ml_X0_68 (hc.2.2.2.2.1 p hp).1 (hc.2.2.2.2.1 p hp).2 rfl (by decide) rfl (Nat.le_of_ble_eq_true rfl) ?_
    refine zk_iinc dX0_passDays_65 zc_1 rfl zk_S_3 ?_
    refine zk_goto (tgt := 47) dX0_passDays_68 (by decide) ?_
    rw [← nI_succ]
    refine ih (i + 1) _ (by omega) (by rw [zk_up_eq]; exact zs_ride_ok ok) ?_
    rw [zs_up2, zk_up_eq, zk_up_ne (zs_hr (hc.2.2.2.2.1 p hp) hc.2.2.1).1, zk_up_ne (zs_hr (hc.2.2.2.2.1 p hp) hc.2.2.1).2]
    exact k
theorem zs_rides_ok {J T : Nat → Int32} : ∀ (n : Nat) (f : Nat → Int32), zs_ok f → zs_ok (zs_rides J T n f)
  | 0, _, h => h
  | n + 1, f, h => zs_rides_ok n _ (zs_ride_ok h)
set_option maxRecDepth 100000 in
set_option maxHeartbeats 4000000 in
theorem lX0_pass2 {l : Launch} {σ : zk_Sh} {L : zk_L} {c : Nat} (hc : zs_c σ c) {n : Nat} (hn : n ≤ 6) {t : Nat} (ht : t < 2 ^ 31) {Q : Option Value → zk_M → zk_L → Prop} : ∀ (m p : Nat) (M : zk_M), p + m = n → M c 2 = nI n → (∀ q, q < 6 → zs_ok (M (σ.2.2.2 (σ.2.2.2 c 1) q))) → zk_R l σ 4 muX0_passDays 77 [some (.ref c), some (.int (nI t)), none, none] [] (zs_for (fun p M => va_up M (σ.2.2.2 (σ.2.2.2 c 1) p) (zs_rides (M (σ.2.2.2 (σ.2.2.2 c 0) 0)) (M (σ.2.2.2 (σ.2.2.2 c 0) 1)) t (M (σ.2.2.2 (σ.2.2.2 c 1) p)))) m p M) L Q → zk_R l σ 4 muX0_passDays 37 [some (.ref c), some (.int (nI t)), some (.int (nI p)), none] [] M L Q := by
  intro m
  induction m with
  | zero =>
    intro p M hi hcnt ok k
    obtain rfl : p = n := by omega
    refine zk_iload_n dX0_passDays_37 rfl ?_
    refine zk_aload_n dX0_passDays_38 rfl ?_
    refine zk_getI dX0_passDays_39 fl_X0_32 hc.1 hc.2.1 rfl ?_
    rw [hcnt]
    refine zk_icmp_ge (tgt := 77) dX0_passDays_42 (by decide) (fun _ => ?_) (fun q => absurd (nI_le (Nat.le_refl _) (by omega)) q)
    refine zk_forget ?_ k
    exact ⟨Or.inr rfl, Or.inr rfl, Or.inl rfl, Or.inl rfl, trivial⟩
  | succ m ih =>
    intro p M hi hcnt ok k
    have hpc : p < n := by omega
    have hp : p < 6 := by omega
    refine zk_iload_n dX0_passDays_37 rfl ?_
    refine zk_aload_n dX0_passDays_38 rfl ?_
    refine zk_getI dX0_passDays_39 fl_X0_32 hc.1 hc.2.1 rfl ?_
    rw [hcnt]
    refine zk_icmp_ge (tgt := 77) dX0_passDays_42 (by decide) (fun h42 => absurd h42 (nI_ge hpc (by omega))) (fun _ => ?_)
    refine zk_iconst dX0_passDays_45 zc_0 ?_
    refine zk_istore_n dX0_passDays_46 zk_S_3 ?_
    refine lX0_pass1 hc hp ht t 0 M (by omega) (ok p hp) ?_
    refine zk_iinc dX0_passDays_71 zc_1 rfl zk_S_2 ?_
    refine zk_goto (tgt := 37) dX0_passDays_74 (by decide) ?_
    rw [← nI_succ]
    refine zk_forget ?_ (ih (p + 1) _ (by omega) (by rw [zk_up_ne (zs_ne_ch hc.2.1 (hc.2.2.2.2.1 p hp))]; exact hcnt) (fun q hq => ?_) ?_)
    · exact ⟨Or.inr rfl, Or.inr rfl, Or.inr rfl, Or.inl rfl, trivial⟩
    · by_cases e : q = p
      · subst e
        rw [zk_up_eq]
        exact zs_rides_ok _ _ (ok q hq)
      · rw [zk_up_ne (fun z => e (hc.2.2.2.2.2 q p hq hp z))]
        exact ok q hq
    · exact k
def zs_pass (σ : zk_Sh) (c n t : Nat) (M : zk_M) : zk_M := zs_for (fun p M => va_up M (σ.2.2.2 (σ.2.2.2 c 1) p) (zs_rides (M (σ.2.2.2 (σ.2.2.2 c 0) 0)) (M (σ.2.2.2 (σ.2.2.2 c 0) 1)) t (M (σ.2.2.2 (σ.2.2.2 c 1) p)))) n 0 (va_up M c (va_up (M c) 3 (M c 3 + nI t)))
set_option maxRecDepth 100000 in
set_option maxHeartbeats 4000000 in
theorem qX0_passDays_t {l : Launch} {σ : zk_Sh} {M : zk_M} {L : zk_L} {c : Nat} (hc : zs_c σ c) {n : Nat} (hn : n ≤ 6) (hcnt : M c 2 = nI n) (ok : ∀ q, q < 6 → zs_ok (M (σ.2.2.2 (σ.2.2.2 c 1) q))) {t : Nat} (h1 : 1 ≤ t) (h60 : t ≤ 60) (hday : M c 3 + nI t ≤ 999) : zk_C l σ 4 muX0_passDays [.ref c, .int (nI t)] M L (zk_Ei 1 (zs_pass σ c n t M) L) := by
  refine zk_ofR (ls := [some (.ref c), some (.int (nI t)), none, none]) (by decide) rfl (Nat.le_of_ble_eq_true rfl) rfl ?_
  refine zk_iload_n dX0_passDays_0 rfl ?_
  refine zk_iconst dX0_passDays_1 zc_1 ?_
  refine zk_icmp_lt (tgt := 23) dX0_passDays_2 (by decide) (fun h2 => absurd h2 (nI_nlt (show 1 ≤ t by omega) (by omega))) (fun _ => ?_)
  refine zk_iload_n dX0_passDays_5 rfl ?_
  refine zk_bipush dX0_passDays_6 zb_60 ?_
  refine zk_icmp_gt (tgt := 23) dX0_passDays_8 (by decide) (fun h8 => absurd h8 (nI_nlt (a := 60) (show t ≤ 60 by omega) (by decide))) (fun _ => ?_)
  refine zk_aload_n dX0_passDays_11 rfl ?_
  refine zk_getI dX0_passDays_12 fl_X0_36 hc.1 hc.2.1 rfl ?_
  refine zk_iload_n dX0_passDays_15 rfl ?_
  refine zk_iadd dX0_passDays_16 ?_
  refine zk_sipush dX0_passDays_17 zs_999 ?_
  refine zk_icmp_le (tgt := 25) dX0_passDays_20 (by decide) (fun _ => ?_) (fun h20 => absurd (hday) h20)
  refine zk_aload_n dX0_passDays_25 rfl ?_
  refine zk_dup dX0_passDays_26 rfl ?_
  refine zk_getI dX0_passDays_27 fl_X0_36 hc.1 hc.2.1 rfl ?_
  refine zk_iload_n dX0_passDays_30 rfl ?_
  refine zk_iadd dX0_passDays_31 ?_
  refine zk_putG dX0_passDays_32 fl_X0_36 ft_0_3 rfl rfl hc.1 hc.2.1 rfl ?_
  refine zk_iconst dX0_passDays_35 zc_0 ?_
  refine zk_istore_n dX0_passDays_36 zk_S_2 ?_
  refine lX0_pass2 hc hn (by omega) n 0 _ (by omega) (by rw [zk_up_eq, zk_up_ne (by decide)]; exact hcnt) (fun q hq => by rw [zk_up_ne (zs_ne_ch hc.2.1 (hc.2.2.2.2.1 q hq)).symm]; exact ok q hq) ?_
  refine zk_iconst dX0_passDays_77 zc_1 ?_
  refine zk_zret rfl (by decide) dX0_passDays_78 ?_
  exact ⟨rfl, rfl, rfl⟩
set_option maxRecDepth 100000 in
set_option maxHeartbeats 4000000 in
theorem qX0_passDays_f {l : Launch} {σ : zk_Sh} {M : zk_M} {L : zk_L} {c : Nat} (hc : zs_c σ c) {t : Int32} (hn : ¬ (1 ≤ t ∧ t ≤ 60 ∧ M c 3 + t ≤ 999)) : zk_C l σ 4 muX0_passDays [.ref c, .int t] M L (zk_Ei 0 M L) := by
  refine zk_ofR (ls := [some (.ref c), some (.int t), none, none]) (by decide) rfl (Nat.le_of_ble_eq_true rfl) rfl ?_
  refine zk_iload_n dX0_passDays_0 rfl ?_
  refine zk_iconst dX0_passDays_1 zc_1 ?_
  refine zk_icmp_lt (tgt := 23) dX0_passDays_2 (by decide) (fun h2 => ?_) (fun h2 => ?_)
  · refine zk_iconst dX0_passDays_23 zc_0 ?_
    refine zk_zret rfl (by decide) dX0_passDays_24 ?_
    exact ⟨rfl, rfl, rfl⟩
  · refine zk_iload_n dX0_passDays_5 rfl ?_
    refine zk_bipush dX0_passDays_6 zb_60 ?_
    refine zk_icmp_gt (tgt := 23) dX0_passDays_8 (by decide) (fun h8 => ?_) (fun h8 => ?_)
    · refine zk_iconst dX0_passDays_23 zc_0 ?_
      refine zk_zret rfl (by decide) dX0_passDays_24 ?_
      exact ⟨rfl, rfl, rfl⟩
    · refine zk_aload_n dX0_passDays_11 rfl ?_
      refine zk_getI dX0_passDays_12 fl_X0_36 hc.1 hc.2.1 rfl ?_
      refine zk_iload_n dX0_passDays_15 rfl ?_
      refine zk_iadd dX0_passDays_16 ?_
      refine zk_sipush dX0_passDays_17 zs_999 ?_
      refine zk_icmp_le (tgt := 25) dX0_passDays_20 (by decide) (fun h20 => absurd h20 (fun q => hn ⟨Int32.not_lt.mp h2, Int32.not_lt.mp h8, q⟩)) (fun _ => ?_)
      refine zk_iconst dX0_passDays_23 zc_0 ?_
      refine zk_zret rfl (by decide) dX0_passDays_24 ?_
      exact ⟨rfl, rfl, rfl⟩
end
