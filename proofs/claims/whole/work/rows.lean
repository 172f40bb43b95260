section
-- ===== PART A: goes FIRST, ahead of the names: the tables' words, and 'selects' of the private methods out of them =====
/-- a private method of a class that the tables say can be made, by its rows of tables_1 -/
def lw_okq (q : MethodName × Nat) : Prop := (q.1.cls ≠ "java/lang/invoke/MethodHandle" ∧ q.1.cls ≠ "java/lang/invoke/VarHandle") ∧ Cond.instantiable q.1.cls q.2 ∈ tables_1 ∧ Cond.privateMethod q.1 ∈ tables_1 ∧ Cond.instanceMethod q.1 ∈ tables_1
theorem lw_p0 : lw_okq (⟨"ShodForTheRoad$Roads", "reckonSteps", "()V"⟩, 2) := ⟨⟨by decide +kernel, by decide +kernel⟩, List.mem_of_getElem? (i := 25) (by decide +kernel), List.mem_of_getElem? (i := 31) (by decide +kernel), List.mem_of_getElem? (i := 32) (by decide +kernel)⟩
theorem lw_p1 : lw_okq (⟨"ShodForTheRoad", "refuse", "(I)I"⟩, 14) := ⟨⟨by decide +kernel, by decide +kernel⟩, List.mem_of_getElem? (i := 11) (by decide +kernel), List.mem_of_getElem? (i := 180) (by decide +kernel), List.mem_of_getElem? (i := 181) (by decide +kernel)⟩
theorem lw_p2 : lw_okq (⟨"ShodForTheRoad$Telling", "firstUnfit", "()I"⟩, 2) := ⟨⟨by decide +kernel, by decide +kernel⟩, List.mem_of_getElem? (i := 118) (by decide +kernel), List.mem_of_getElem? (i := 216) (by decide +kernel), List.mem_of_getElem? (i := 217) (by decide +kernel)⟩
theorem lw_p3 : lw_okq (⟨"ShodForTheRoad$Telling", "fits", "(II)Z"⟩, 2) := ⟨⟨by decide +kernel, by decide +kernel⟩, List.mem_of_getElem? (i := 118) (by decide +kernel), List.mem_of_getElem? (i := 220) (by decide +kernel), List.mem_of_getElem? (i := 221) (by decide +kernel)⟩
theorem lw_p4 : lw_okq (⟨"ShodForTheRoad$Telling", "signAt", "(I)I"⟩, 2) := ⟨⟨by decide +kernel, by decide +kernel⟩, List.mem_of_getElem? (i := 118) (by decide +kernel), List.mem_of_getElem? (i := 224) (by decide +kernel), List.mem_of_getElem? (i := 225) (by decide +kernel)⟩
theorem lw_p5 : lw_okq (⟨"ShodForTheRoad$Telling", "tellStatement", "(LShodForTheRoad$County;I)Z"⟩, 2) := ⟨⟨by decide +kernel, by decide +kernel⟩, List.mem_of_getElem? (i := 118) (by decide +kernel), List.mem_of_getElem? (i := 237) (by decide +kernel), List.mem_of_getElem? (i := 238) (by decide +kernel)⟩
theorem lw_p6 : lw_okq (⟨"ShodForTheRoad$Telling", "digitAt", "(I)I"⟩, 2) := ⟨⟨by decide +kernel, by decide +kernel⟩, List.mem_of_getElem? (i := 118) (by decide +kernel), List.mem_of_getElem? (i := 241) (by decide +kernel), List.mem_of_getElem? (i := 242) (by decide +kernel)⟩
theorem lw_p7 : lw_okq (⟨"ShodForTheRoad$Telling", "tellRider", "(LShodForTheRoad$County;I)Z"⟩, 2) := ⟨⟨by decide +kernel, by decide +kernel⟩, List.mem_of_getElem? (i := 118) (by decide +kernel), List.mem_of_getElem? (i := 254) (by decide +kernel), List.mem_of_getElem? (i := 255) (by decide +kernel)⟩
theorem lw_p8 : lw_okq (⟨"ShodForTheRoad", "thinkOf", "(I)V"⟩, 14) := ⟨⟨by decide +kernel, by decide +kernel⟩, List.mem_of_getElem? (i := 11) (by decide +kernel), List.mem_of_getElem? (i := 391) (by decide +kernel), List.mem_of_getElem? (i := 392) (by decide +kernel)⟩
theorem lw_p9 : lw_okq (⟨"ShodForTheRoad", "comesNow", "(II)I"⟩, 14) := ⟨⟨by decide +kernel, by decide +kernel⟩, List.mem_of_getElem? (i := 11) (by decide +kernel), List.mem_of_getElem? (i := 405) (by decide +kernel), List.mem_of_getElem? (i := 406) (by decide +kernel)⟩
theorem lw_p10 : lw_okq (⟨"ShodForTheRoad", "mindDaysWhereHeSays", "()J"⟩, 14) := ⟨⟨by decide +kernel, by decide +kernel⟩, List.mem_of_getElem? (i := 11) (by decide +kernel), List.mem_of_getElem? (i := 434) (by decide +kernel), List.mem_of_getElem? (i := 435) (by decide +kernel)⟩
theorem lw_p11 : lw_okq (⟨"ShodForTheRoad", "comesWithChange", "(IIII)I"⟩, 14) := ⟨⟨by decide +kernel, by decide +kernel⟩, List.mem_of_getElem? (i := 11) (by decide +kernel), List.mem_of_getElem? (i := 451) (by decide +kernel), List.mem_of_getElem? (i := 452) (by decide +kernel)⟩
theorem lw_p12 : lw_okq (⟨"ShodForTheRoad", "noteGuests", "(I)V"⟩, 14) := ⟨⟨by decide +kernel, by decide +kernel⟩, List.mem_of_getElem? (i := 11) (by decide +kernel), List.mem_of_getElem? (i := 465) (by decide +kernel), List.mem_of_getElem? (i := 466) (by decide +kernel)⟩
theorem lw_p13 : lw_okq (⟨"ShodForTheRoad", "totalWithBare", "(II)I"⟩, 14) := ⟨⟨by decide +kernel, by decide +kernel⟩, List.mem_of_getElem? (i := 11) (by decide +kernel), List.mem_of_getElem? (i := 518) (by decide +kernel), List.mem_of_getElem? (i := 519) (by decide +kernel)⟩
theorem lw_p14 : lw_okq (⟨"ShodForTheRoad", "costOfChoice", "(III)I"⟩, 14) := ⟨⟨by decide +kernel, by decide +kernel⟩, List.mem_of_getElem? (i := 11) (by decide +kernel), List.mem_of_getElem? (i := 531) (by decide +kernel), List.mem_of_getElem? (i := 532) (by decide +kernel)⟩
theorem lw_p15 : lw_okq (⟨"ShodForTheRoad", "refuseLong", "(I)J"⟩, 14) := ⟨⟨by decide +kernel, by decide +kernel⟩, List.mem_of_getElem? (i := 11) (by decide +kernel), List.mem_of_getElem? (i := 540) (by decide +kernel), List.mem_of_getElem? (i := 541) (by decide +kernel)⟩
def lw_privs_1 : List (MethodName × Nat) := [(⟨"ShodForTheRoad$Roads", "reckonSteps", "()V"⟩, 2), (⟨"ShodForTheRoad", "refuse", "(I)I"⟩, 14), (⟨"ShodForTheRoad$Telling", "firstUnfit", "()I"⟩, 2), (⟨"ShodForTheRoad$Telling", "fits", "(II)Z"⟩, 2), (⟨"ShodForTheRoad$Telling", "signAt", "(I)I"⟩, 2), (⟨"ShodForTheRoad$Telling", "tellStatement", "(LShodForTheRoad$County;I)Z"⟩, 2), (⟨"ShodForTheRoad$Telling", "digitAt", "(I)I"⟩, 2), (⟨"ShodForTheRoad$Telling", "tellRider", "(LShodForTheRoad$County;I)Z"⟩, 2), (⟨"ShodForTheRoad", "thinkOf", "(I)V"⟩, 14), (⟨"ShodForTheRoad", "comesNow", "(II)I"⟩, 14), (⟨"ShodForTheRoad", "mindDaysWhereHeSays", "()J"⟩, 14), (⟨"ShodForTheRoad", "comesWithChange", "(IIII)I"⟩, 14), (⟨"ShodForTheRoad", "noteGuests", "(I)V"⟩, 14), (⟨"ShodForTheRoad", "totalWithBare", "(II)I"⟩, 14), (⟨"ShodForTheRoad", "costOfChoice", "(III)I"⟩, 14), (⟨"ShodForTheRoad", "refuseLong", "(I)J"⟩, 14)]
theorem lw_r1 : ∀ q ∈ lw_privs_1, lw_okq q := List.forall_mem_cons.mpr ⟨lw_p0, List.forall_mem_cons.mpr ⟨lw_p1, List.forall_mem_cons.mpr ⟨lw_p2, List.forall_mem_cons.mpr ⟨lw_p3, List.forall_mem_cons.mpr ⟨lw_p4, List.forall_mem_cons.mpr ⟨lw_p5, List.forall_mem_cons.mpr ⟨lw_p6, List.forall_mem_cons.mpr ⟨lw_p7, List.forall_mem_cons.mpr ⟨lw_p8, List.forall_mem_cons.mpr ⟨lw_p9, List.forall_mem_cons.mpr ⟨lw_p10, List.forall_mem_cons.mpr ⟨lw_p11, List.forall_mem_cons.mpr ⟨lw_p12, List.forall_mem_cons.mpr ⟨lw_p13, List.forall_mem_cons.mpr ⟨lw_p14, List.forall_mem_cons.mpr ⟨lw_p15, fun _ h => absurd h List.not_mem_nil⟩⟩⟩⟩⟩⟩⟩⟩⟩⟩⟩⟩⟩⟩⟩⟩
theorem lw_p16 : lw_okq (⟨"ShodForTheRoad", "startChances", "(I)V"⟩, 14) := ⟨⟨by decide +kernel, by decide +kernel⟩, List.mem_of_getElem? (i := 11) (by decide +kernel), List.mem_of_getElem? (i := 545) (by decide +kernel), List.mem_of_getElem? (i := 546) (by decide +kernel)⟩
theorem lw_p17 : lw_okq (⟨"ShodForTheRoad", "spreadChances", "(I)V"⟩, 14) := ⟨⟨by decide +kernel, by decide +kernel⟩, List.mem_of_getElem? (i := 11) (by decide +kernel), List.mem_of_getElem? (i := 549) (by decide +kernel), List.mem_of_getElem? (i := 550) (by decide +kernel)⟩
theorem lw_p18 : lw_okq (⟨"ShodForTheRoad", "mindFollowsRow", "()Z"⟩, 14) := ⟨⟨by decide +kernel, by decide +kernel⟩, List.mem_of_getElem? (i := 11) (by decide +kernel), List.mem_of_getElem? (i := 572) (by decide +kernel), List.mem_of_getElem? (i := 573) (by decide +kernel)⟩
theorem lw_p19 : lw_okq (⟨"ShodForTheRoad", "firstWrongInRow", "()I"⟩, 14) := ⟨⟨by decide +kernel, by decide +kernel⟩, List.mem_of_getElem? (i := 11) (by decide +kernel), List.mem_of_getElem? (i := 584) (by decide +kernel), List.mem_of_getElem? (i := 585) (by decide +kernel)⟩
theorem lw_p20 : lw_okq (⟨"ShodForTheRoad", "refusalCount", "(I)I"⟩, 14) := ⟨⟨by decide +kernel, by decide +kernel⟩, List.mem_of_getElem? (i := 11) (by decide +kernel), List.mem_of_getElem? (i := 626) (by decide +kernel), List.mem_of_getElem? (i := 627) (by decide +kernel)⟩
theorem lw_p21 : lw_okq (⟨"ShodForTheRoadModel", "no", "(I)I"⟩, 15) := ⟨⟨by decide +kernel, by decide +kernel⟩, List.mem_of_getElem? (i := 630) (by decide +kernel), List.mem_of_getElem? (i := 686) (by decide +kernel), List.mem_of_getElem? (i := 687) (by decide +kernel)⟩
theorem lw_p22 : lw_okq (⟨"ShodForTheRoadModel", "readsStatement", "()Z"⟩, 15) := ⟨⟨by decide +kernel, by decide +kernel⟩, List.mem_of_getElem? (i := 630) (by decide +kernel), List.mem_of_getElem? (i := 694) (by decide +kernel), List.mem_of_getElem? (i := 695) (by decide +kernel)⟩
theorem lw_p23 : lw_okq (⟨"ShodForTheRoadModel", "here", "()I"⟩, 15) := ⟨⟨by decide +kernel, by decide +kernel⟩, List.mem_of_getElem? (i := 630) (by decide +kernel), List.mem_of_getElem? (i := 698) (by decide +kernel), List.mem_of_getElem? (i := 699) (by decide +kernel)⟩
theorem lw_p24 : lw_okq (⟨"ShodForTheRoadModel", "readsNumber", "(II)Z"⟩, 15) := ⟨⟨by decide +kernel, by decide +kernel⟩, List.mem_of_getElem? (i := 630) (by decide +kernel), List.mem_of_getElem? (i := 702) (by decide +kernel), List.mem_of_getElem? (i := 703) (by decide +kernel)⟩
theorem lw_p25 : lw_okq (⟨"ShodForTheRoadModel", "readsKind", "()Z"⟩, 15) := ⟨⟨by decide +kernel, by decide +kernel⟩, List.mem_of_getElem? (i := 630) (by decide +kernel), List.mem_of_getElem? (i := 709) (by decide +kernel), List.mem_of_getElem? (i := 710) (by decide +kernel)⟩
theorem lw_p26 : lw_okq (⟨"ShodForTheRoadModel", "isDone", "(I)Z"⟩, 15) := ⟨⟨by decide +kernel, by decide +kernel⟩, List.mem_of_getElem? (i := 630) (by decide +kernel), List.mem_of_getElem? (i := 719) (by decide +kernel), List.mem_of_getElem? (i := 720) (by decide +kernel)⟩
theorem lw_p27 : lw_okq (⟨"ShodForTheRoadModel", "addsRider", "()Z"⟩, 15) := ⟨⟨by decide +kernel, by decide +kernel⟩, List.mem_of_getElem? (i := 630) (by decide +kernel), List.mem_of_getElem? (i := 729) (by decide +kernel), List.mem_of_getElem? (i := 730) (by decide +kernel)⟩
theorem lw_p28 : lw_okq (⟨"ShodForTheRoadModel", "isRider", "(I)Z"⟩, 15) := ⟨⟨by decide +kernel, by decide +kernel⟩, List.mem_of_getElem? (i := 630) (by decide +kernel), List.mem_of_getElem? (i := 742) (by decide +kernel), List.mem_of_getElem? (i := 743) (by decide +kernel)⟩
theorem lw_p29 : lw_okq (⟨"ShodForTheRoadModel", "daysOn", "([II)V"⟩, 15) := ⟨⟨by decide +kernel, by decide +kernel⟩, List.mem_of_getElem? (i := 630) (by decide +kernel), List.mem_of_getElem? (i := 746) (by decide +kernel), List.mem_of_getElem? (i := 747) (by decide +kernel)⟩
theorem lw_p30 : lw_okq (⟨"ShodForTheRoadModel", "measures", "([I)V"⟩, 15) := ⟨⟨by decide +kernel, by decide +kernel⟩, List.mem_of_getElem? (i := 630) (by decide +kernel), List.mem_of_getElem? (i := 750) (by decide +kernel), List.mem_of_getElem? (i := 751) (by decide +kernel)⟩
theorem lw_p31 : lw_okq (⟨"ShodForTheRoadModel", "day", "([IZ)V"⟩, 15) := ⟨⟨by decide +kernel, by decide +kernel⟩, List.mem_of_getElem? (i := 630) (by decide +kernel), List.mem_of_getElem? (i := 760) (by decide +kernel), List.mem_of_getElem? (i := 761) (by decide +kernel)⟩
def lw_privs_2 : List (MethodName × Nat) := [(⟨"ShodForTheRoad", "startChances", "(I)V"⟩, 14), (⟨"ShodForTheRoad", "spreadChances", "(I)V"⟩, 14), (⟨"ShodForTheRoad", "mindFollowsRow", "()Z"⟩, 14), (⟨"ShodForTheRoad", "firstWrongInRow", "()I"⟩, 14), (⟨"ShodForTheRoad", "refusalCount", "(I)I"⟩, 14), (⟨"ShodForTheRoadModel", "no", "(I)I"⟩, 15), (⟨"ShodForTheRoadModel", "readsStatement", "()Z"⟩, 15), (⟨"ShodForTheRoadModel", "here", "()I"⟩, 15), (⟨"ShodForTheRoadModel", "readsNumber", "(II)Z"⟩, 15), (⟨"ShodForTheRoadModel", "readsKind", "()Z"⟩, 15), (⟨"ShodForTheRoadModel", "isDone", "(I)Z"⟩, 15), (⟨"ShodForTheRoadModel", "addsRider", "()Z"⟩, 15), (⟨"ShodForTheRoadModel", "isRider", "(I)Z"⟩, 15), (⟨"ShodForTheRoadModel", "daysOn", "([II)V"⟩, 15), (⟨"ShodForTheRoadModel", "measures", "([I)V"⟩, 15), (⟨"ShodForTheRoadModel", "day", "([IZ)V"⟩, 15)]
theorem lw_r2 : ∀ q ∈ lw_privs_2, lw_okq q := List.forall_mem_cons.mpr ⟨lw_p16, List.forall_mem_cons.mpr ⟨lw_p17, List.forall_mem_cons.mpr ⟨lw_p18, List.forall_mem_cons.mpr ⟨lw_p19, List.forall_mem_cons.mpr ⟨lw_p20, List.forall_mem_cons.mpr ⟨lw_p21, List.forall_mem_cons.mpr ⟨lw_p22, List.forall_mem_cons.mpr ⟨lw_p23, List.forall_mem_cons.mpr ⟨lw_p24, List.forall_mem_cons.mpr ⟨lw_p25, List.forall_mem_cons.mpr ⟨lw_p26, List.forall_mem_cons.mpr ⟨lw_p27, List.forall_mem_cons.mpr ⟨lw_p28, List.forall_mem_cons.mpr ⟨lw_p29, List.forall_mem_cons.mpr ⟨lw_p30, List.forall_mem_cons.mpr ⟨lw_p31, fun _ h => absurd h List.not_mem_nil⟩⟩⟩⟩⟩⟩⟩⟩⟩⟩⟩⟩⟩⟩⟩⟩
theorem lw_p32 : lw_okq (⟨"ShodForTheRoadModel", "goes", "([II)V"⟩, 15) := ⟨⟨by decide +kernel, by decide +kernel⟩, List.mem_of_getElem? (i := 630) (by decide +kernel), List.mem_of_getElem? (i := 767) (by decide +kernel), List.mem_of_getElem? (i := 768) (by decide +kernel)⟩
theorem lw_p33 : lw_okq (⟨"ShodForTheRoadModel", "pull", "([III)I"⟩, 15) := ⟨⟨by decide +kernel, by decide +kernel⟩, List.mem_of_getElem? (i := 630) (by decide +kernel), List.mem_of_getElem? (i := 771) (by decide +kernel), List.mem_of_getElem? (i := 772) (by decide +kernel)⟩
theorem lw_p34 : lw_okq (⟨"ShodForTheRoadModel", "sets", "(III)I"⟩, 15) := ⟨⟨by decide +kernel, by decide +kernel⟩, List.mem_of_getElem? (i := 630) (by decide +kernel), List.mem_of_getElem? (i := 799) (by decide +kernel), List.mem_of_getElem? (i := 800) (by decide +kernel)⟩
theorem lw_p35 : lw_okq (⟨"ShodForTheRoadModel", "takes", "(I)V"⟩, 15) := ⟨⟨by decide +kernel, by decide +kernel⟩, List.mem_of_getElem? (i := 630) (by decide +kernel), List.mem_of_getElem? (i := 828) (by decide +kernel), List.mem_of_getElem? (i := 829) (by decide +kernel)⟩
theorem lw_p36 : lw_okq (⟨"ShodForTheRoadModel", "areWrong", "(II)Z"⟩, 15) := ⟨⟨by decide +kernel, by decide +kernel⟩, List.mem_of_getElem? (i := 630) (by decide +kernel), List.mem_of_getElem? (i := 836) (by decide +kernel), List.mem_of_getElem? (i := 837) (by decide +kernel)⟩
theorem lw_p37 : lw_okq (⟨"ShodForTheRoadModel", "comesNow", "(II)I"⟩, 15) := ⟨⟨by decide +kernel, by decide +kernel⟩, List.mem_of_getElem? (i := 630) (by decide +kernel), List.mem_of_getElem? (i := 840) (by decide +kernel), List.mem_of_getElem? (i := 841) (by decide +kernel)⟩
theorem lw_p38 : lw_okq (⟨"ShodForTheRoadModel", "comesIn", "(II)I"⟩, 15) := ⟨⟨by decide +kernel, by decide +kernel⟩, List.mem_of_getElem? (i := 630) (by decide +kernel), List.mem_of_getElem? (i := 844) (by decide +kernel), List.mem_of_getElem? (i := 845) (by decide +kernel)⟩
theorem lw_p39 : lw_okq (⟨"ShodForTheRoadModel", "isResting", "(II)Z"⟩, 15) := ⟨⟨by decide +kernel, by decide +kernel⟩, List.mem_of_getElem? (i := 630) (by decide +kernel), List.mem_of_getElem? (i := 859) (by decide +kernel), List.mem_of_getElem? (i := 860) (by decide +kernel)⟩
theorem lw_p40 : lw_okq (⟨"ShodForTheRoadModel", "comesTurned", "(IIII)I"⟩, 15) := ⟨⟨by decide +kernel, by decide +kernel⟩, List.mem_of_getElem? (i := 630) (by decide +kernel), List.mem_of_getElem? (i := 883) (by decide +kernel), List.mem_of_getElem? (i := 884) (by decide +kernel)⟩
theorem lw_p41 : lw_okq (⟨"ShodForTheRoadModel", "mostApart", "()I"⟩, 15) := ⟨⟨by decide +kernel, by decide +kernel⟩, List.mem_of_getElem? (i := 630) (by decide +kernel), List.mem_of_getElem? (i := 907) (by decide +kernel), List.mem_of_getElem? (i := 908) (by decide +kernel)⟩
theorem lw_p42 : lw_okq (⟨"ShodForTheRoadModel", "totalIn", "()I"⟩, 15) := ⟨⟨by decide +kernel, by decide +kernel⟩, List.mem_of_getElem? (i := 630) (by decide +kernel), List.mem_of_getElem? (i := 923) (by decide +kernel), List.mem_of_getElem? (i := 924) (by decide +kernel)⟩
theorem lw_p43 : lw_okq (⟨"ShodForTheRoadModel", "stepsLeft", "([II)I"⟩, 15) := ⟨⟨by decide +kernel, by decide +kernel⟩, List.mem_of_getElem? (i := 630) (by decide +kernel), List.mem_of_getElem? (i := 927) (by decide +kernel), List.mem_of_getElem? (i := 928) (by decide +kernel)⟩
theorem lw_p44 : lw_okq (⟨"ShodForTheRoadModel", "costBy", "(IIIIII)I"⟩, 15) := ⟨⟨by decide +kernel, by decide +kernel⟩, List.mem_of_getElem? (i := 630) (by decide +kernel), List.mem_of_getElem? (i := 939) (by decide +kernel), List.mem_of_getElem? (i := 940) (by decide +kernel)⟩
theorem lw_p45 : lw_okq (⟨"ShodForTheRoadModel", "noWide", "(I)J"⟩, 15) := ⟨⟨by decide +kernel, by decide +kernel⟩, List.mem_of_getElem? (i := 630) (by decide +kernel), List.mem_of_getElem? (i := 947) (by decide +kernel), List.mem_of_getElem? (i := 948) (by decide +kernel)⟩
theorem lw_p46 : lw_okq (⟨"ShodForTheRoadModel", "sum", "(I)I"⟩, 15) := ⟨⟨by decide +kernel, by decide +kernel⟩, List.mem_of_getElem? (i := 630) (by decide +kernel), List.mem_of_getElem? (i := 962) (by decide +kernel), List.mem_of_getElem? (i := 963) (by decide +kernel)⟩
theorem lw_p47 : lw_okq (⟨"ShodForTheRoadModel", "drawn", "(I)I"⟩, 15) := ⟨⟨by decide +kernel, by decide +kernel⟩, List.mem_of_getElem? (i := 630) (by decide +kernel), List.mem_of_getElem? (i := 986) (by decide +kernel), List.mem_of_getElem? (i := 987) (by decide +kernel)⟩
def lw_privs_3 : List (MethodName × Nat) := [(⟨"ShodForTheRoadModel", "goes", "([II)V"⟩, 15), (⟨"ShodForTheRoadModel", "pull", "([III)I"⟩, 15), (⟨"ShodForTheRoadModel", "sets", "(III)I"⟩, 15), (⟨"ShodForTheRoadModel", "takes", "(I)V"⟩, 15), (⟨"ShodForTheRoadModel", "areWrong", "(II)Z"⟩, 15), (⟨"ShodForTheRoadModel", "comesNow", "(II)I"⟩, 15), (⟨"ShodForTheRoadModel", "comesIn", "(II)I"⟩, 15), (⟨"ShodForTheRoadModel", "isResting", "(II)Z"⟩, 15), (⟨"ShodForTheRoadModel", "comesTurned", "(IIII)I"⟩, 15), (⟨"ShodForTheRoadModel", "mostApart", "()I"⟩, 15), (⟨"ShodForTheRoadModel", "totalIn", "()I"⟩, 15), (⟨"ShodForTheRoadModel", "stepsLeft", "([II)I"⟩, 15), (⟨"ShodForTheRoadModel", "costBy", "(IIIIII)I"⟩, 15), (⟨"ShodForTheRoadModel", "noWide", "(I)J"⟩, 15), (⟨"ShodForTheRoadModel", "sum", "(I)I"⟩, 15), (⟨"ShodForTheRoadModel", "drawn", "(I)I"⟩, 15)]
theorem lw_r3 : ∀ q ∈ lw_privs_3, lw_okq q := List.forall_mem_cons.mpr ⟨lw_p32, List.forall_mem_cons.mpr ⟨lw_p33, List.forall_mem_cons.mpr ⟨lw_p34, List.forall_mem_cons.mpr ⟨lw_p35, List.forall_mem_cons.mpr ⟨lw_p36, List.forall_mem_cons.mpr ⟨lw_p37, List.forall_mem_cons.mpr ⟨lw_p38, List.forall_mem_cons.mpr ⟨lw_p39, List.forall_mem_cons.mpr ⟨lw_p40, List.forall_mem_cons.mpr ⟨lw_p41, List.forall_mem_cons.mpr ⟨lw_p42, List.forall_mem_cons.mpr ⟨lw_p43, List.forall_mem_cons.mpr ⟨lw_p44, List.forall_mem_cons.mpr ⟨lw_p45, List.forall_mem_cons.mpr ⟨lw_p46, List.forall_mem_cons.mpr ⟨lw_p47, fun _ h => absurd h List.not_mem_nil⟩⟩⟩⟩⟩⟩⟩⟩⟩⟩⟩⟩⟩⟩⟩⟩
def lw_privs : List (MethodName × Nat) := lw_privs_1 ++ (lw_privs_2 ++ (lw_privs_3))
def lw_tbl : List Cond := k2_sels lw_privs ++ tables_1
theorem lw_privs_ok : ∀ q ∈ lw_privs, lw_okq q := by
  show ∀ q ∈ lw_privs_1 ++ (lw_privs_2 ++ (lw_privs_3)), lw_okq q
  exact List.forall_mem_append.mpr ⟨lw_r1, List.forall_mem_append.mpr ⟨lw_r2, lw_r3⟩⟩
end
section
def RX0 : String := "ShodForTheRoad$County"
def TX0 : u_T := fun k => match k with
  | 0 => ("ShodForTheRoad$County", "net", "LShodForTheRoad$Roads;", true)
  | 1 => ("ShodForTheRoad$County", "riders", "[LShodForTheRoad$Horseman;", true)
  | 2 => ("ShodForTheRoad$County", "riderCount", "I", false)
  | _ => ("ShodForTheRoad$County", "day", "I", false)
def tyX0 : Nat → FieldType := fun k => match k with
  | 0 => .object "ShodForTheRoad$Roads"
  | 1 => .array (.object "ShodForTheRoad$Horseman")
  | 2 => .int
  | _ => .int
abbrev wsX00 : List Cond := u_ws RX0 TX0 4
theorem nmX0 : ∀ a, a < 4 → ∀ b, b < 4 → a ≠ b → (TX0 a).2.1 ≠ (TX0 b).2.1 := by decide +kernel
theorem tyX0_ok : ∀ k, k < 4 → parseFieldDescriptor (TX0 k).2.2.1 = some (tyX0 k) := by decide +kernel
abbrev cX0_init : ByteArray := prog_2_method_1_code
def yX0_init : MethodName := ⟨RX0, "<init>", "()V"⟩
abbrev cX0_becomes : ByteArray := prog_2_method_2_code
def yX0_becomes : MethodName := ⟨RX0, "becomes", "(LShodForTheRoad$County;)V"⟩
abbrev cX0_hasRider : ByteArray := prog_2_method_3_code
def yX0_hasRider : MethodName := ⟨RX0, "hasRider", "(I)Z"⟩
abbrev cX0_changeRoad : ByteArray := prog_2_method_4_code
def yX0_changeRoad : MethodName := ⟨RX0, "changeRoad", "(II)Z"⟩
abbrev cX0_addRider : ByteArray := prog_2_method_5_code
def yX0_addRider : MethodName := ⟨RX0, "addRider", "(IIIII)Z"⟩
abbrev cX0_shoeAnew : ByteArray := prog_2_method_6_code
def yX0_shoeAnew : MethodName := ⟨RX0, "shoeAnew", "(I)Z"⟩
abbrev cX0_setGoal : ByteArray := prog_2_method_7_code
def yX0_setGoal : MethodName := ⟨RX0, "setGoal", "(II)Z"⟩
abbrev cX0_setAt : ByteArray := prog_2_method_8_code
def yX0_setAt : MethodName := ⟨RX0, "setAt", "(II)Z"⟩
abbrev cX0_passDays : ByteArray := prog_2_method_9_code
def yX0_passDays : MethodName := ⟨RX0, "passDays", "(I)Z"⟩
abbrev cX0_arrivedBits : ByteArray := prog_2_method_10_code
def yX0_arrivedBits : MethodName := ⟨RX0, "arrivedBits", "()I"⟩
abbrev cX0_honestBits : ByteArray := prog_2_method_11_code
def yX0_honestBits : MethodName := ⟨RX0, "honestBits", "()I"⟩
abbrev cX0_lostBits : ByteArray := prog_2_method_12_code
def yX0_lostBits : MethodName := ⟨RX0, "lostBits", "()I"⟩
abbrev cX0_allShoes : ByteArray := prog_2_method_13_code
def yX0_allShoes : MethodName := ⟨RX0, "allShoes", "()I"⟩
abbrev cX0_allWorn : ByteArray := prog_2_method_14_code
def yX0_allWorn : MethodName := ⟨RX0, "allWorn", "()I"⟩
def RX1 : String := "ShodForTheRoad$Horseman"
def TX1 : u_T := fun k => match k with
  | 0 => ("ShodForTheRoad$Horseman", "kind", "I", false)
  | 1 => ("ShodForTheRoad$Horseman", "figure", "I", false)
  | 2 => ("ShodForTheRoad$Horseman", "goal", "I", false)
  | 3 => ("ShodForTheRoad$Horseman", "says", "I", false)
  | 4 => ("ShodForTheRoad$Horseman", "at", "I", false)
  | 5 => ("ShodForTheRoad$Horseman", "shoes", "I", false)
  | _ => ("ShodForTheRoad$Horseman", "worn", "I", false)
def tyX1 : Nat → FieldType := fun k => match k with
  | 0 => .int
  | 1 => .int
  | 2 => .int
  | 3 => .int
  | 4 => .int
  | 5 => .int
  | _ => .int
abbrev wsX10 : List Cond := u_ws RX1 TX1 7
theorem nmX1 : ∀ a, a < 7 → ∀ b, b < 7 → a ≠ b → (TX1 a).2.1 ≠ (TX1 b).2.1 := by decide +kernel
theorem tyX1_ok : ∀ k, k < 7 → parseFieldDescriptor (TX1 k).2.2.1 = some (tyX1 k) := by decide +kernel
abbrev cX1_init : ByteArray := prog_3_method_1_code
def yX1_init : MethodName := ⟨RX1, "<init>", "()V"⟩
abbrev cX1_becomes : ByteArray := prog_3_method_2_code
def yX1_becomes : MethodName := ⟨RX1, "becomes", "(LShodForTheRoad$Horseman;)V"⟩
abbrev cX1_shoeAnew : ByteArray := prog_3_method_3_code
def yX1_shoeAnew : MethodName := ⟨RX1, "shoeAnew", "()V"⟩
abbrev cX1_daysForShoe : ByteArray := prog_3_method_4_code
def yX1_daysForShoe : MethodName := ⟨RX1, "daysForShoe", "()I"⟩
abbrev cX1_wearIron : ByteArray := prog_3_method_5_code
def yX1_wearIron : MethodName := ⟨RX1, "wearIron", "()V"⟩
abbrev cX1_pullOf : ByteArray := prog_3_method_6_code
def yX1_pullOf : MethodName := ⟨RX1, "pullOf", "(LShodForTheRoad$Roads;I)I"⟩
abbrev cX1_nextFrom : ByteArray := prog_3_method_7_code
def yX1_nextFrom : MethodName := ⟨RX1, "nextFrom", "(LShodForTheRoad$Roads;I)I"⟩
abbrev cX1_rideDay : ByteArray := prog_3_method_8_code
def yX1_rideDay : MethodName := ⟨RX1, "rideDay", "(LShodForTheRoad$Roads;)V"⟩
abbrev cX1_rideDays : ByteArray := prog_3_method_9_code
def yX1_rideDays : MethodName := ⟨RX1, "rideDays", "(LShodForTheRoad$Roads;I)V"⟩
abbrev cX1_daysUntilAt : ByteArray := prog_3_method_10_code
def yX1_daysUntilAt : MethodName := ⟨RX1, "daysUntilAt", "(LShodForTheRoad$Roads;I)I"⟩
abbrev cX1_stepsToGo : ByteArray := prog_3_method_11_code
def yX1_stepsToGo : MethodName := ⟨RX1, "stepsToGo", "(LShodForTheRoad$Roads;)I"⟩
abbrev cX1_isWhereHeSays : ByteArray := prog_3_method_12_code
def yX1_isWhereHeSays : MethodName := ⟨RX1, "isWhereHeSays", "()Z"⟩
def RX2 : String := "ShodForTheRoad$Roads"
def TX2 : u_T := fun k => match k with
  | 0 => ("ShodForTheRoad$Roads", "joined", "[I", true)
  | _ => ("ShodForTheRoad$Roads", "stepTable", "[I", true)
def tyX2 : Nat → FieldType := fun k => match k with
  | 0 => .array .int
  | _ => .array .int
abbrev wsX20 : List Cond := u_ws RX2 TX2 2
theorem nmX2 : ∀ a, a < 2 → ∀ b, b < 2 → a ≠ b → (TX2 a).2.1 ≠ (TX2 b).2.1 := by decide +kernel
theorem tyX2_ok : ∀ k, k < 2 → parseFieldDescriptor (TX2 k).2.2.1 = some (tyX2 k) := by decide +kernel
abbrev cX2_init : ByteArray := prog_4_method_1_code
def yX2_init : MethodName := ⟨RX2, "<init>", "()V"⟩
abbrev cX2_becomes : ByteArray := prog_4_method_2_code
def yX2_becomes : MethodName := ⟨RX2, "becomes", "(LShodForTheRoad$Roads;)V"⟩
abbrev cX2_joins : ByteArray := prog_4_method_3_code
def yX2_joins : MethodName := ⟨RX2, "joins", "(II)Z"⟩
abbrev cX2_stepsBetween : ByteArray := prog_4_method_4_code
def yX2_stepsBetween : MethodName := ⟨RX2, "stepsBetween", "(II)I"⟩
abbrev cX2_change : ByteArray := prog_4_method_5_code
def yX2_change : MethodName := ⟨RX2, "change", "(II)V"⟩
abbrev cX2_roadCount : ByteArray := prog_4_method_6_code
def yX2_roadCount : MethodName := ⟨RX2, "roadCount", "()I"⟩
abbrev cX2_mostSteps : ByteArray := prog_4_method_7_code
def yX2_mostSteps : MethodName := ⟨RX2, "mostSteps", "()I"⟩
abbrev cX2_farBits : ByteArray := prog_4_method_8_code
def yX2_farBits : MethodName := ⟨RX2, "farBits", "()I"⟩
abbrev cX2_reckonSteps : ByteArray := prog_4_method_9_code
def yX2_reckonSteps : MethodName := ⟨RX2, "reckonSteps", "()V"⟩
def RX3 : String := "ShodForTheRoad$Telling"
def TX3 : u_T := fun k => match k with
  | 0 => ("ShodForTheRoad$Telling", "signs", "[I", true)
  | _ => ("ShodForTheRoad$Telling", "length", "I", false)
def tyX3 : Nat → FieldType := fun k => match k with
  | 0 => .array .int
  | _ => .int
abbrev wsX30 : List Cond := u_ws RX3 TX3 2
theorem nmX3 : ∀ a, a < 2 → ∀ b, b < 2 → a ≠ b → (TX3 a).2.1 ≠ (TX3 b).2.1 := by decide +kernel
theorem tyX3_ok : ∀ k, k < 2 → parseFieldDescriptor (TX3 k).2.2.1 = some (tyX3 k) := by decide +kernel
abbrev cX3_init : ByteArray := prog_5_method_1_code
def yX3_init : MethodName := ⟨RX3, "<init>", "()V"⟩
abbrev cX3_isFull : ByteArray := prog_5_method_2_code
def yX3_isFull : MethodName := ⟨RX3, "isFull", "()Z"⟩
abbrev cX3_add : ByteArray := prog_5_method_3_code
def yX3_add : MethodName := ⟨RX3, "add", "(I)I"⟩
abbrev cX3_forget : ByteArray := prog_5_method_4_code
def yX3_forget : MethodName := ⟨RX3, "forget", "()V"⟩
abbrev cX3_tellTo : ByteArray := prog_5_method_5_code
def yX3_tellTo : MethodName := ⟨RX3, "tellTo", "(LShodForTheRoad$County;)I"⟩
abbrev cX3_signAt : ByteArray := prog_5_method_6_code
def yX3_signAt : MethodName := ⟨RX3, "signAt", "(I)I"⟩
abbrev cX3_digitAt : ByteArray := prog_5_method_7_code
def yX3_digitAt : MethodName := ⟨RX3, "digitAt", "(I)I"⟩
abbrev cX3_lettersOf : ByteArray := prog_5_method_8_code
def yX3_lettersOf : MethodName := ⟨RX3, "lettersOf", "(I)I"⟩
abbrev cX3_firstUnfit : ByteArray := prog_5_method_9_code
def yX3_firstUnfit : MethodName := ⟨RX3, "firstUnfit", "()I"⟩
abbrev cX3_fits : ByteArray := prog_5_method_10_code
def yX3_fits : MethodName := ⟨RX3, "fits", "(II)Z"⟩
abbrev cX3_tellStatement : ByteArray := prog_5_method_11_code
def yX3_tellStatement : MethodName := ⟨RX3, "tellStatement", "(LShodForTheRoad$County;I)Z"⟩
abbrev cX3_tellRider : ByteArray := prog_5_method_12_code
def yX3_tellRider : MethodName := ⟨RX3, "tellRider", "(LShodForTheRoad$County;I)Z"⟩
def RX4 : String := "ShodForTheRoad"
def TX4 : u_T := fun k => match k with
  | 0 => ("ShodForTheRoad", "now", "LShodForTheRoad$County;", true)
  | 1 => ("ShodForTheRoad", "kept", "LShodForTheRoad$County;", true)
  | 2 => ("ShodForTheRoad", "thought", "LShodForTheRoad$County;", true)
  | 3 => ("ShodForTheRoad", "thoughtRoads", "LShodForTheRoad$Roads;", true)
  | 4 => ("ShodForTheRoad", "mind", "LShodForTheRoad$Horseman;", true)
  | 5 => ("ShodForTheRoad", "otherMind", "LShodForTheRoad$Horseman;", true)
  | 6 => ("ShodForTheRoad", "telling", "LShodForTheRoad$Telling;", true)
  | 7 => ("ShodForTheRoad", "rowNumbers", "[I", true)
  | 8 => ("ShodForTheRoad", "refusals", "[I", true)
  | 9 => ("ShodForTheRoad", "riderBits", "[I", true)
  | 10 => ("ShodForTheRoad", "chances", "[J", true)
  | 11 => ("ShodForTheRoad", "laterChances", "[J", true)
  | 12 => ("ShodForTheRoad", "rowLength", "I", false)
  | _ => ("ShodForTheRoad", "hasImage", "Z", false)
def tyX4 : Nat → FieldType := fun k => match k with
  | 0 => .object "ShodForTheRoad$County"
  | 1 => .object "ShodForTheRoad$County"
  | 2 => .object "ShodForTheRoad$County"
  | 3 => .object "ShodForTheRoad$Roads"
  | 4 => .object "ShodForTheRoad$Horseman"
  | 5 => .object "ShodForTheRoad$Horseman"
  | 6 => .object "ShodForTheRoad$Telling"
  | 7 => .array .int
  | 8 => .array .int
  | 9 => .array .int
  | 10 => .array .long
  | 11 => .array .long
  | 12 => .int
  | _ => .boolean
abbrev wsX40 : List Cond := u_ws RX4 TX4 14
theorem nmX4 : ∀ a, a < 14 → ∀ b, b < 14 → a ≠ b → (TX4 a).2.1 ≠ (TX4 b).2.1 := by decide +kernel
theorem tyX4_ok : ∀ k, k < 14 → parseFieldDescriptor (TX4 k).2.2.1 = some (tyX4 k) := by decide +kernel
abbrev cX4_init : ByteArray := prog_1_method_1_code
def yX4_init : MethodName := ⟨RX4, "<init>", "()V"⟩
abbrev cX4_letter : ByteArray := prog_1_method_2_code
def yX4_letter : MethodName := ⟨RX4, "letter", "(I)I"⟩
abbrev cX4_county : ByteArray := prog_1_method_3_code
def yX4_county : MethodName := ⟨RX4, "county", "()I"⟩
abbrev cX4_rider : ByteArray := prog_1_method_4_code
def yX4_rider : MethodName := ⟨RX4, "rider", "(II)I"⟩
abbrev cX4_steps : ByteArray := prog_1_method_5_code
def yX4_steps : MethodName := ⟨RX4, "steps", "(II)I"⟩
abbrev cX4_pulls : ByteArray := prog_1_method_6_code
def yX4_pulls : MethodName := ⟨RX4, "pulls", "(II)I"⟩
abbrev cX4_roads : ByteArray := prog_1_method_7_code
def yX4_roads : MethodName := ⟨RX4, "roads", "(II)I"⟩
abbrev cX4_shod : ByteArray := prog_1_method_8_code
def yX4_shod : MethodName := ⟨RX4, "shod", "(I)I"⟩
abbrev cX4_wants : ByteArray := prog_1_method_9_code
def yX4_wants : MethodName := ⟨RX4, "wants", "(II)I"⟩
abbrev cX4_stands : ByteArray := prog_1_method_10_code
def yX4_stands : MethodName := ⟨RX4, "stands", "(II)I"⟩
abbrev cX4_turn : ByteArray := prog_1_method_11_code
def yX4_turn : MethodName := ⟨RX4, "turn", "(III)I"⟩
abbrev cX4_days : ByteArray := prog_1_method_12_code
def yX4_days : MethodName := ⟨RX4, "days", "(I)I"⟩
abbrev cX4_riderThen : ByteArray := prog_1_method_13_code
def yX4_riderThen : MethodName := ⟨RX4, "riderThen", "(III)I"⟩
abbrev cX4_comes : ByteArray := prog_1_method_14_code
def yX4_comes : MethodName := ⟨RX4, "comes", "(II)I"⟩
abbrev cX4_first : ByteArray := prog_1_method_15_code
def yX4_first : MethodName := ⟨RX4, "first", "(I)I"⟩
abbrev cX4_rests : ByteArray := prog_1_method_16_code
def yX4_rests : MethodName := ⟨RX4, "rests", "(I)I"⟩
abbrev cX4_meet : ByteArray := prog_1_method_17_code
def yX4_meet : MethodName := ⟨RX4, "meet", "(III)I"⟩
abbrev cX4_arrived : ByteArray := prog_1_method_18_code
def yX4_arrived : MethodName := ⟨RX4, "arrived", "()I"⟩
abbrev cX4_shoe : ByteArray := prog_1_method_19_code
def yX4_shoe : MethodName := ⟨RX4, "shoe", "(III)I"⟩
abbrev cX4_wish : ByteArray := prog_1_method_20_code
def yX4_wish : MethodName := ⟨RX4, "wish", "(II)I"⟩
abbrev cX4_road : ByteArray := prog_1_method_21_code
def yX4_road : MethodName := ⟨RX4, "road", "(II)I"⟩
abbrev cX4_cut : ByteArray := prog_1_method_22_code
def yX4_cut : MethodName := ⟨RX4, "cut", "(II)I"⟩
abbrev cX4_inn : ByteArray := prog_1_method_23_code
def yX4_inn : MethodName := ⟨RX4, "inn", "(II)I"⟩
abbrev cX4_busiest : ByteArray := prog_1_method_24_code
def yX4_busiest : MethodName := ⟨RX4, "busiest", "()I"⟩
abbrev cX4_near : ByteArray := prog_1_method_25_code
def yX4_near : MethodName := ⟨RX4, "near", "(I)I"⟩
abbrev cX4_apart : ByteArray := prog_1_method_26_code
def yX4_apart : MethodName := ⟨RX4, "apart", "(I)I"⟩
abbrev cX4_tired : ByteArray := prog_1_method_27_code
def yX4_tired : MethodName := ⟨RX4, "tired", "()I"⟩
abbrev cX4_truly : ByteArray := prog_1_method_28_code
def yX4_truly : MethodName := ⟨RX4, "truly", "(I)I"⟩
abbrev cX4_total : ByteArray := prog_1_method_29_code
def yX4_total : MethodName := ⟨RX4, "total", "(I)I"⟩
abbrev cX4_bare : ByteArray := prog_1_method_30_code
def yX4_bare : MethodName := ⟨RX4, "bare", "(I)I"⟩
abbrev cX4_two : ByteArray := prog_1_method_31_code
def yX4_two : MethodName := ⟨RX4, "two", "(III)I"⟩
abbrev cX4_mud : ByteArray := prog_1_method_32_code
def yX4_mud : MethodName := ⟨RX4, "mud", "(IIIII)J"⟩
abbrev cX4_mean : ByteArray := prog_1_method_33_code
def yX4_mean : MethodName := ⟨RX4, "mean", "(I)J"⟩
abbrev cX4_whatWanted : ByteArray := prog_1_method_34_code
def yX4_whatWanted : MethodName := ⟨RX4, "whatWanted", "(II)I"⟩
abbrev cX4_row : ByteArray := prog_1_method_35_code
def yX4_row : MethodName := ⟨RX4, "row", "(I)I"⟩
abbrev cX4_judge : ByteArray := prog_1_method_36_code
def yX4_judge : MethodName := ⟨RX4, "judge", "()I"⟩
abbrev cX4_clear : ByteArray := prog_1_method_37_code
def yX4_clear : MethodName := ⟨RX4, "clear", "()I"⟩
abbrev cX4_lots : ByteArray := prog_1_method_38_code
def yX4_lots : MethodName := ⟨RX4, "lots", "(III)I"⟩
abbrev cX4_image : ByteArray := prog_1_method_39_code
def yX4_image : MethodName := ⟨RX4, "image", "()I"⟩
abbrev cX4_on : ByteArray := prog_1_method_40_code
def yX4_on : MethodName := ⟨RX4, "on", "()I"⟩
abbrev cX4_count : ByteArray := prog_1_method_41_code
def yX4_count : MethodName := ⟨RX4, "count", "(I)I"⟩
abbrev cX4_refusalCount : ByteArray := prog_1_method_42_code
def yX4_refusalCount : MethodName := ⟨RX4, "refusalCount", "(I)I"⟩
abbrev cX4_refuse : ByteArray := prog_1_method_43_code
def yX4_refuse : MethodName := ⟨RX4, "refuse", "(I)I"⟩
abbrev cX4_refuseLong : ByteArray := prog_1_method_44_code
def yX4_refuseLong : MethodName := ⟨RX4, "refuseLong", "(I)J"⟩
abbrev cX4_refusalOfNumber : ByteArray := prog_1_method_45_code
def yX4_refusalOfNumber : MethodName := ⟨RX4, "refusalOfNumber", "(III)I"⟩
abbrev cX4_isBelow : ByteArray := prog_1_method_46_code
def yX4_isBelow : MethodName := ⟨RX4, "isBelow", "(II)Z"⟩
abbrev cX4_isPlace : ByteArray := prog_1_method_47_code
def yX4_isPlace : MethodName := ⟨RX4, "isPlace", "(I)Z"⟩
abbrev cX4_dayOrNone : ByteArray := prog_1_method_48_code
def yX4_dayOrNone : MethodName := ⟨RX4, "dayOrNone", "(I)I"⟩
abbrev cX4_thinkOf : ByteArray := prog_1_method_49_code
def yX4_thinkOf : MethodName := ⟨RX4, "thinkOf", "(I)V"⟩
abbrev cX4_comesNow : ByteArray := prog_1_method_50_code
def yX4_comesNow : MethodName := ⟨RX4, "comesNow", "(II)I"⟩
abbrev cX4_comesWithChange : ByteArray := prog_1_method_51_code
def yX4_comesWithChange : MethodName := ⟨RX4, "comesWithChange", "(IIII)I"⟩
abbrev cX4_mindDaysWhereHeSays : ByteArray := prog_1_method_52_code
def yX4_mindDaysWhereHeSays : MethodName := ⟨RX4, "mindDaysWhereHeSays", "()J"⟩
abbrev cX4_noteGuests : ByteArray := prog_1_method_53_code
def yX4_noteGuests : MethodName := ⟨RX4, "noteGuests", "(I)V"⟩
abbrev cX4_totalWithBare : ByteArray := prog_1_method_54_code
def yX4_totalWithBare : MethodName := ⟨RX4, "totalWithBare", "(II)I"⟩
abbrev cX4_costOfChoice : ByteArray := prog_1_method_55_code
def yX4_costOfChoice : MethodName := ⟨RX4, "costOfChoice", "(III)I"⟩
abbrev cX4_startChances : ByteArray := prog_1_method_56_code
def yX4_startChances : MethodName := ⟨RX4, "startChances", "(I)V"⟩
abbrev cX4_spreadChances : ByteArray := prog_1_method_57_code
def yX4_spreadChances : MethodName := ⟨RX4, "spreadChances", "(I)V"⟩
abbrev cX4_mindFollowsRow : ByteArray := prog_1_method_58_code
def yX4_mindFollowsRow : MethodName := ⟨RX4, "mindFollowsRow", "()Z"⟩
abbrev cX4_firstWrongInRow : ByteArray := prog_1_method_59_code
def yX4_firstWrongInRow : MethodName := ⟨RX4, "firstWrongInRow", "()I"⟩
abbrev cX4_partOfFraction : ByteArray := prog_1_method_60_code
def yX4_partOfFraction : MethodName := ⟨RX4, "partOfFraction", "(JJI)J"⟩
abbrev cX4_greatestDivisor : ByteArray := prog_1_method_61_code
def yX4_greatestDivisor : MethodName := ⟨RX4, "greatestDivisor", "(JJ)J"⟩
abbrev cX4_nextSeed : ByteArray := prog_1_method_62_code
def yX4_nextSeed : MethodName := ⟨RX4, "nextSeed", "(I)I"⟩
abbrev cX4_drawn : ByteArray := prog_1_method_63_code
def yX4_drawn : MethodName := ⟨RX4, "drawn", "(II)I"⟩
abbrev cX4_shoesOfKind : ByteArray := prog_1_method_64_code
def yX4_shoesOfKind : MethodName := ⟨RX4, "shoesOfKind", "(I)I"⟩
abbrev cX4_daysOfKind : ByteArray := prog_1_method_65_code
def yX4_daysOfKind : MethodName := ⟨RX4, "daysOfKind", "(II)I"⟩
abbrev cX4_kindOfLetter : ByteArray := prog_1_method_66_code
def yX4_kindOfLetter : MethodName := ⟨RX4, "kindOfLetter", "(I)I"⟩
def RX5 : String := "ShodForTheRoadModel"
def TX5 : u_T := fun k => match k with
  | 0 => ("ShodForTheRoadModel", "s", "[I", true)
  | 1 => ("ShodForTheRoadModel", "m", "[I", true)
  | 2 => ("ShodForTheRoadModel", "image", "[I", true)
  | 3 => ("ShodForTheRoadModel", "was", "[I", true)
  | 4 => ("ShodForTheRoadModel", "far", "[I", true)
  | 5 => ("ShodForTheRoadModel", "hasImage", "Z", false)
  | 6 => ("ShodForTheRoadModel", "letters", "[I", true)
  | 7 => ("ShodForTheRoadModel", "row", "[I", true)
  | 8 => ("ShodForTheRoadModel", "refused", "[I", true)
  | 9 => ("ShodForTheRoadModel", "letterMany", "I", false)
  | 10 => ("ShodForTheRoadModel", "rowMany", "I", false)
  | 11 => ("ShodForTheRoadModel", "place", "I", false)
  | 12 => ("ShodForTheRoadModel", "numbers", "[I", true)
  | 13 => ("ShodForTheRoadModel", "stays", "[I", true)
  | _ => ("ShodForTheRoadModel", "seed", "I", false)
def tyX5 : Nat → FieldType := fun k => match k with
  | 0 => .array .int
  | 1 => .array .int
  | 2 => .array .int
  | 3 => .array .int
  | 4 => .array .int
  | 5 => .boolean
  | 6 => .array .int
  | 7 => .array .int
  | 8 => .array .int
  | 9 => .int
  | 10 => .int
  | 11 => .int
  | 12 => .array .int
  | 13 => .array .int
  | _ => .int
abbrev wsX50 : List Cond := u_ws RX5 TX5 15
theorem nmX5 : ∀ a, a < 15 → ∀ b, b < 15 → a ≠ b → (TX5 a).2.1 ≠ (TX5 b).2.1 := by decide +kernel
theorem tyX5_ok : ∀ k, k < 15 → parseFieldDescriptor (TX5 k).2.2.1 = some (tyX5 k) := by decide +kernel
abbrev cX5_init : ByteArray := prog_7_method_1_code
def yX5_init : MethodName := ⟨RX5, "<init>", "()V"⟩
abbrev cX5_isIn : ByteArray := prog_7_method_2_code
def yX5_isIn : MethodName := ⟨RX5, "isIn", "(III)Z"⟩
abbrev cX5_least : ByteArray := prog_7_method_3_code
def yX5_least : MethodName := ⟨RX5, "least", "(II)I"⟩
abbrev cX5_copies : ByteArray := prog_7_method_4_code
def yX5_copies : MethodName := ⟨RX5, "copies", "([I[I)V"⟩
abbrev cX5_no : ByteArray := prog_7_method_5_code
def yX5_no : MethodName := ⟨RX5, "no", "(I)I"⟩
abbrev cX5_noWide : ByteArray := prog_7_method_6_code
def yX5_noWide : MethodName := ⟨RX5, "noWide", "(I)J"⟩
abbrev cX5_of : ByteArray := prog_7_method_7_code
def yX5_of : MethodName := ⟨RX5, "of", "(II)I"⟩
abbrev cX5_isRider : ByteArray := prog_7_method_8_code
def yX5_isRider : MethodName := ⟨RX5, "isRider", "(I)Z"⟩
abbrev cX5_isPlace : ByteArray := prog_7_method_9_code
def yX5_isPlace : MethodName := ⟨RX5, "isPlace", "(I)Z"⟩
abbrev cX5_has : ByteArray := prog_7_method_10_code
def yX5_has : MethodName := ⟨RX5, "has", "(II)Z"⟩
abbrev cX5_bits : ByteArray := prog_7_method_11_code
def yX5_bits : MethodName := ⟨RX5, "bits", "(I)I"⟩
abbrev cX5_shoesBy : ByteArray := prog_7_method_12_code
def yX5_shoesBy : MethodName := ⟨RX5, "shoesBy", "(I)I"⟩
abbrev cX5_daysBy : ByteArray := prog_7_method_13_code
def yX5_daysBy : MethodName := ⟨RX5, "daysBy", "(II)I"⟩
abbrev cX5_measures : ByteArray := prog_7_method_14_code
def yX5_measures : MethodName := ⟨RX5, "measures", "([I)V"⟩
abbrev cX5_pull : ByteArray := prog_7_method_15_code
def yX5_pull : MethodName := ⟨RX5, "pull", "([III)I"⟩
abbrev cX5_goes : ByteArray := prog_7_method_16_code
def yX5_goes : MethodName := ⟨RX5, "goes", "([II)V"⟩
abbrev cX5_day : ByteArray := prog_7_method_17_code
def yX5_day : MethodName := ⟨RX5, "day", "([IZ)V"⟩
abbrev cX5_daysOn : ByteArray := prog_7_method_18_code
def yX5_daysOn : MethodName := ⟨RX5, "daysOn", "([II)V"⟩
abbrev cX5_isShod : ByteArray := prog_7_method_19_code
def yX5_isShod : MethodName := ⟨RX5, "isShod", "([II)V"⟩
abbrev cX5_atSaid : ByteArray := prog_7_method_20_code
def yX5_atSaid : MethodName := ⟨RX5, "atSaid", "([I)I"⟩
abbrev cX5_turnsRoad : ByteArray := prog_7_method_21_code
def yX5_turnsRoad : MethodName := ⟨RX5, "turnsRoad", "([III)V"⟩
abbrev cX5_letter : ByteArray := prog_7_method_22_code
def yX5_letter : MethodName := ⟨RX5, "letter", "(I)I"⟩
abbrev cX5_here : ByteArray := prog_7_method_23_code
def yX5_here : MethodName := ⟨RX5, "here", "()I"⟩
abbrev cX5_readsNumber : ByteArray := prog_7_method_24_code
def yX5_readsNumber : MethodName := ⟨RX5, "readsNumber", "(II)Z"⟩
abbrev cX5_kindBy : ByteArray := prog_7_method_25_code
def yX5_kindBy : MethodName := ⟨RX5, "kindBy", "(I)I"⟩
abbrev cX5_readsKind : ByteArray := prog_7_method_26_code
def yX5_readsKind : MethodName := ⟨RX5, "readsKind", "()Z"⟩
abbrev cX5_readsStatement : ByteArray := prog_7_method_27_code
def yX5_readsStatement : MethodName := ⟨RX5, "readsStatement", "()Z"⟩
abbrev cX5_addsRider : ByteArray := prog_7_method_28_code
def yX5_addsRider : MethodName := ⟨RX5, "addsRider", "()Z"⟩
abbrev cX5_isDone : ByteArray := prog_7_method_29_code
def yX5_isDone : MethodName := ⟨RX5, "isDone", "(I)Z"⟩
abbrev cX5_county : ByteArray := prog_7_method_30_code
def yX5_county : MethodName := ⟨RX5, "county", "()I"⟩
abbrev cX5_rider : ByteArray := prog_7_method_31_code
def yX5_rider : MethodName := ⟨RX5, "rider", "(II)I"⟩
abbrev cX5_steps : ByteArray := prog_7_method_32_code
def yX5_steps : MethodName := ⟨RX5, "steps", "(II)I"⟩
abbrev cX5_pulls : ByteArray := prog_7_method_33_code
def yX5_pulls : MethodName := ⟨RX5, "pulls", "(II)I"⟩
abbrev cX5_roads : ByteArray := prog_7_method_34_code
def yX5_roads : MethodName := ⟨RX5, "roads", "(II)I"⟩
abbrev cX5_shod : ByteArray := prog_7_method_35_code
def yX5_shod : MethodName := ⟨RX5, "shod", "(I)I"⟩
abbrev cX5_sets : ByteArray := prog_7_method_36_code
def yX5_sets : MethodName := ⟨RX5, "sets", "(III)I"⟩
abbrev cX5_wants : ByteArray := prog_7_method_37_code
def yX5_wants : MethodName := ⟨RX5, "wants", "(II)I"⟩
abbrev cX5_stands : ByteArray := prog_7_method_38_code
def yX5_stands : MethodName := ⟨RX5, "stands", "(II)I"⟩
abbrev cX5_wrongBy : ByteArray := prog_7_method_39_code
def yX5_wrongBy : MethodName := ⟨RX5, "wrongBy", "(III)I"⟩
abbrev cX5_turn : ByteArray := prog_7_method_40_code
def yX5_turn : MethodName := ⟨RX5, "turn", "(III)I"⟩
abbrev cX5_days : ByteArray := prog_7_method_41_code
def yX5_days : MethodName := ⟨RX5, "days", "(I)I"⟩
abbrev cX5_takes : ByteArray := prog_7_method_42_code
def yX5_takes : MethodName := ⟨RX5, "takes", "(I)V"⟩
abbrev cX5_riderThen : ByteArray := prog_7_method_43_code
def yX5_riderThen : MethodName := ⟨RX5, "riderThen", "(III)I"⟩
abbrev cX5_comesIn : ByteArray := prog_7_method_44_code
def yX5_comesIn : MethodName := ⟨RX5, "comesIn", "(II)I"⟩
abbrev cX5_comesNow : ByteArray := prog_7_method_45_code
def yX5_comesNow : MethodName := ⟨RX5, "comesNow", "(II)I"⟩
abbrev cX5_areWrong : ByteArray := prog_7_method_46_code
def yX5_areWrong : MethodName := ⟨RX5, "areWrong", "(II)Z"⟩
abbrev cX5_comes : ByteArray := prog_7_method_47_code
def yX5_comes : MethodName := ⟨RX5, "comes", "(II)I"⟩
abbrev cX5_orNever : ByteArray := prog_7_method_48_code
def yX5_orNever : MethodName := ⟨RX5, "orNever", "(I)I"⟩
abbrev cX5_first : ByteArray := prog_7_method_49_code
def yX5_first : MethodName := ⟨RX5, "first", "(I)I"⟩
abbrev cX5_isResting : ByteArray := prog_7_method_50_code
def yX5_isResting : MethodName := ⟨RX5, "isResting", "(II)Z"⟩
abbrev cX5_rests : ByteArray := prog_7_method_51_code
def yX5_rests : MethodName := ⟨RX5, "rests", "(I)I"⟩
abbrev cX5_meet : ByteArray := prog_7_method_52_code
def yX5_meet : MethodName := ⟨RX5, "meet", "(III)I"⟩
abbrev cX5_arrived : ByteArray := prog_7_method_53_code
def yX5_arrived : MethodName := ⟨RX5, "arrived", "()I"⟩
abbrev cX5_shoe : ByteArray := prog_7_method_54_code
def yX5_shoe : MethodName := ⟨RX5, "shoe", "(III)I"⟩
abbrev cX5_wish : ByteArray := prog_7_method_55_code
def yX5_wish : MethodName := ⟨RX5, "wish", "(II)I"⟩
abbrev cX5_comesTurned : ByteArray := prog_7_method_56_code
def yX5_comesTurned : MethodName := ⟨RX5, "comesTurned", "(IIII)I"⟩
abbrev cX5_road : ByteArray := prog_7_method_57_code
def yX5_road : MethodName := ⟨RX5, "road", "(II)I"⟩
abbrev cX5_cut : ByteArray := prog_7_method_58_code
def yX5_cut : MethodName := ⟨RX5, "cut", "(II)I"⟩
abbrev cX5_inn : ByteArray := prog_7_method_59_code
def yX5_inn : MethodName := ⟨RX5, "inn", "(II)I"⟩
abbrev cX5_busiest : ByteArray := prog_7_method_60_code
def yX5_busiest : MethodName := ⟨RX5, "busiest", "()I"⟩
abbrev cX5_near : ByteArray := prog_7_method_61_code
def yX5_near : MethodName := ⟨RX5, "near", "(I)I"⟩
abbrev cX5_mostApart : ByteArray := prog_7_method_62_code
def yX5_mostApart : MethodName := ⟨RX5, "mostApart", "()I"⟩
abbrev cX5_apart : ByteArray := prog_7_method_63_code
def yX5_apart : MethodName := ⟨RX5, "apart", "(I)I"⟩
abbrev cX5_tired : ByteArray := prog_7_method_64_code
def yX5_tired : MethodName := ⟨RX5, "tired", "()I"⟩
abbrev cX5_truly : ByteArray := prog_7_method_65_code
def yX5_truly : MethodName := ⟨RX5, "truly", "(I)I"⟩
abbrev cX5_stepsLeft : ByteArray := prog_7_method_66_code
def yX5_stepsLeft : MethodName := ⟨RX5, "stepsLeft", "([II)I"⟩
abbrev cX5_totalIn : ByteArray := prog_7_method_67_code
def yX5_totalIn : MethodName := ⟨RX5, "totalIn", "()I"⟩
abbrev cX5_total : ByteArray := prog_7_method_68_code
def yX5_total : MethodName := ⟨RX5, "total", "(I)I"⟩
abbrev cX5_bare : ByteArray := prog_7_method_69_code
def yX5_bare : MethodName := ⟨RX5, "bare", "(I)I"⟩
abbrev cX5_costBy : ByteArray := prog_7_method_70_code
def yX5_costBy : MethodName := ⟨RX5, "costBy", "(IIIIII)I"⟩
abbrev cX5_two : ByteArray := prog_7_method_71_code
def yX5_two : MethodName := ⟨RX5, "two", "(III)I"⟩
abbrev cX5_gcd : ByteArray := prog_7_method_72_code
def yX5_gcd : MethodName := ⟨RX5, "gcd", "(JJ)J"⟩
abbrev cX5_partOf : ByteArray := prog_7_method_73_code
def yX5_partOf : MethodName := ⟨RX5, "partOf", "(JJI)J"⟩
abbrev cX5_mud : ByteArray := prog_7_method_74_code
def yX5_mud : MethodName := ⟨RX5, "mud", "(IIIII)J"⟩
abbrev cX5_sum : ByteArray := prog_7_method_75_code
def yX5_sum : MethodName := ⟨RX5, "sum", "(I)I"⟩
abbrev cX5_mean : ByteArray := prog_7_method_76_code
def yX5_mean : MethodName := ⟨RX5, "mean", "(I)J"⟩
abbrev cX5_whatWanted : ByteArray := prog_7_method_77_code
def yX5_whatWanted : MethodName := ⟨RX5, "whatWanted", "(II)I"⟩
abbrev cX5_row : ByteArray := prog_7_method_78_code
def yX5_row : MethodName := ⟨RX5, "row", "(I)I"⟩
abbrev cX5_judge : ByteArray := prog_7_method_79_code
def yX5_judge : MethodName := ⟨RX5, "judge", "()I"⟩
abbrev cX5_clear : ByteArray := prog_7_method_80_code
def yX5_clear : MethodName := ⟨RX5, "clear", "()I"⟩
abbrev cX5_drawn : ByteArray := prog_7_method_81_code
def yX5_drawn : MethodName := ⟨RX5, "drawn", "(I)I"⟩
abbrev cX5_lots : ByteArray := prog_7_method_82_code
def yX5_lots : MethodName := ⟨RX5, "lots", "(III)I"⟩
abbrev cX5_image : ByteArray := prog_7_method_83_code
def yX5_image : MethodName := ⟨RX5, "image", "()I"⟩
abbrev cX5_on : ByteArray := prog_7_method_84_code
def yX5_on : MethodName := ⟨RX5, "on", "()I"⟩
abbrev cX5_count : ByteArray := prog_7_method_85_code
def yX5_count : MethodName := ⟨RX5, "count", "(I)I"⟩
def RJ6 : String := "java/lang/Integer"
def TJ6 : u_T := fun k => match k with
  | _ => ("", "", "", false)
def tyJ6 : Nat → FieldType := fun k => match k with
  | _ => .int
abbrev wsJ60 : List Cond := u_ws RJ6 TJ6 0
theorem nmJ6 : ∀ a, a < 0 → ∀ b, b < 0 → a ≠ b → (TJ6 a).2.1 ≠ (TJ6 b).2.1 := by decide +kernel
theorem tyJ6_ok : ∀ k, k < 0 → parseFieldDescriptor (TJ6 k).2.2.1 = some (tyJ6 k) := by decide +kernel
abbrev cJ6_bitCount_0f7a4 : ByteArray := prog_8_method_49_code
def yJ6_bitCount_0f7a4 : MethodName := ⟨RJ6, "bitCount", "(I)I"⟩
def RJ9 : String := "java/lang/Math"
def TJ9 : u_T := fun k => match k with
  | _ => ("", "", "", false)
def tyJ9 : Nat → FieldType := fun k => match k with
  | _ => .int
abbrev wsJ90 : List Cond := u_ws RJ9 TJ9 0
theorem nmJ9 : ∀ a, a < 0 → ∀ b, b < 0 → a ≠ b → (TJ9 a).2.1 ≠ (TJ9 b).2.1 := by decide +kernel
theorem tyJ9_ok : ∀ k, k < 0 → parseFieldDescriptor (TJ9 k).2.2.1 = some (tyJ9 k) := by decide +kernel
abbrev cJ9_max_7cf53 : ByteArray := prog_9_method_65_code
def yJ9_max_7cf53 : MethodName := ⟨RJ9, "max", "(II)I"⟩
abbrev cJ9_min_7cf53 : ByteArray := prog_9_method_69_code
def yJ9_min_7cf53 : MethodName := ⟨RJ9, "min", "(II)I"⟩
def RJ10 : String := "java/lang/System"
def TJ10 : u_T := fun k => match k with
  | _ => ("", "", "", false)
def tyJ10 : Nat → FieldType := fun k => match k with
  | _ => .int
abbrev wsJ100 : List Cond := u_ws RJ10 TJ10 0
theorem nmJ10 : ∀ a, a < 0 → ∀ b, b < 0 → a ≠ b → (TJ10 a).2.1 ≠ (TJ10 b).2.1 := by decide +kernel
theorem tyJ10_ok : ∀ k, k < 0 → parseFieldDescriptor (TJ10 k).2.2.1 = some (tyJ10 k) := by decide +kernel
def RL : String := "ShodForTheRoadLaw"
abbrev cL_law : ByteArray := code
def yL_law : MethodName := ⟨RL, "law", "([I)Z"⟩
abbrev vwCl : List vw_C := [(RX0, TX0, 4), (RX1, TX1, 7), (RX2, TX2, 2), (RX3, TX3, 2), (RX4, TX4, 14), (RX5, TX5, 15)]
end
section
theorem dX0_init_0 : decode cX0_init 0 = .ok (.aload_n 0, 1) := by decide +kernel
theorem dX0_init_1 : decode cX0_init 1 = .ok (.invokespecial 3, 3) := by decide +kernel
theorem dX0_init_4 : decode cX0_init 4 = .ok (.aload_n 0, 1) := by decide +kernel
theorem dX0_init_5 : decode cX0_init 5 = .ok (.new 9, 3) := by decide +kernel
theorem dX0_init_8 : decode cX0_init 8 = .ok (.dup, 1) := by decide +kernel
theorem dX0_init_9 : decode cX0_init 9 = .ok (.invokespecial 11, 3) := by decide +kernel
theorem dX0_init_12 : decode cX0_init 12 = .ok (.putfield 12, 3) := by decide +kernel
theorem dX0_init_15 : decode cX0_init 15 = .ok (.aload_n 0, 1) := by decide +kernel
theorem dX0_init_16 : decode cX0_init 16 = .ok (.bipush 6, 2) := by decide +kernel
theorem dX0_init_18 : decode cX0_init 18 = .ok (.anewarray 18, 3) := by decide +kernel
theorem dX0_init_21 : decode cX0_init 21 = .ok (.putfield 20, 3) := by decide +kernel
theorem dX0_init_24 : decode cX0_init 24 = .ok (.iconst 0, 1) := by decide +kernel
theorem dX0_init_25 : decode cX0_init 25 = .ok (.istore_n 1, 1) := by decide +kernel
theorem dX0_init_26 : decode cX0_init 26 = .ok (.iload_n 1, 1) := by decide +kernel
theorem dX0_init_27 : decode cX0_init 27 = .ok (.bipush 6, 2) := by decide +kernel
theorem dX0_init_29 : decode cX0_init 29 = .ok (.if_icmp .ge 22, 3) := by decide +kernel
theorem dX0_init_32 : decode cX0_init 32 = .ok (.aload_n 0, 1) := by decide +kernel
theorem dX0_init_33 : decode cX0_init 33 = .ok (.getfield 20, 3) := by decide +kernel
theorem dX0_init_36 : decode cX0_init 36 = .ok (.iload_n 1, 1) := by decide +kernel
theorem dX0_init_37 : decode cX0_init 37 = .ok (.new 18, 3) := by decide +kernel
theorem dX0_init_40 : decode cX0_init 40 = .ok (.dup, 1) := by decide +kernel
theorem dX0_init_41 : decode cX0_init 41 = .ok (.invokespecial 24, 3) := by decide +kernel
theorem dX0_init_44 : decode cX0_init 44 = .ok (.aastore, 1) := by decide +kernel
theorem dX0_init_45 : decode cX0_init 45 = .ok (.iinc 1 1, 3) := by decide +kernel
theorem dX0_init_48 : decode cX0_init 48 = .ok (.goto (-22), 3) := by decide +kernel
theorem dX0_init_51 : decode cX0_init 51 = .ok (.return_, 1) := by decide +kernel
theorem dX0_becomes_0 : decode cX0_becomes 0 = .ok (.aload_n 0, 1) := by decide +kernel
theorem dX0_becomes_1 : decode cX0_becomes 1 = .ok (.getfield 12, 3) := by decide +kernel
theorem dX0_becomes_4 : decode cX0_becomes 4 = .ok (.aload_n 1, 1) := by decide +kernel
theorem dX0_becomes_5 : decode cX0_becomes 5 = .ok (.getfield 12, 3) := by decide +kernel
theorem dX0_becomes_8 : decode cX0_becomes 8 = .ok (.invokevirtual 25, 3) := by decide +kernel
theorem dX0_becomes_11 : decode cX0_becomes 11 = .ok (.iconst 0, 1) := by decide +kernel
theorem dX0_becomes_12 : decode cX0_becomes 12 = .ok (.istore_n 2, 1) := by decide +kernel
theorem dX0_becomes_13 : decode cX0_becomes 13 = .ok (.iload_n 2, 1) := by decide +kernel
theorem dX0_becomes_14 : decode cX0_becomes 14 = .ok (.bipush 6, 2) := by decide +kernel
theorem dX0_becomes_16 : decode cX0_becomes 16 = .ok (.if_icmp .ge 24, 3) := by decide +kernel
theorem dX0_becomes_19 : decode cX0_becomes 19 = .ok (.aload_n 0, 1) := by decide +kernel
theorem dX0_becomes_20 : decode cX0_becomes 20 = .ok (.getfield 20, 3) := by decide +kernel
theorem dX0_becomes_23 : decode cX0_becomes 23 = .ok (.iload_n 2, 1) := by decide +kernel
theorem dX0_becomes_24 : decode cX0_becomes 24 = .ok (.aaload, 1) := by decide +kernel
theorem dX0_becomes_25 : decode cX0_becomes 25 = .ok (.aload_n 1, 1) := by decide +kernel
theorem dX0_becomes_26 : decode cX0_becomes 26 = .ok (.getfield 20, 3) := by decide +kernel
theorem dX0_becomes_29 : decode cX0_becomes 29 = .ok (.iload_n 2, 1) := by decide +kernel
theorem dX0_becomes_30 : decode cX0_becomes 30 = .ok (.aaload, 1) := by decide +kernel
theorem dX0_becomes_31 : decode cX0_becomes 31 = .ok (.invokevirtual 29, 3) := by decide +kernel
theorem dX0_becomes_34 : decode cX0_becomes 34 = .ok (.iinc 2 1, 3) := by decide +kernel
theorem dX0_becomes_37 : decode cX0_becomes 37 = .ok (.goto (-24), 3) := by decide +kernel
theorem dX0_becomes_40 : decode cX0_becomes 40 = .ok (.aload_n 0, 1) := by decide +kernel
theorem dX0_becomes_41 : decode cX0_becomes 41 = .ok (.aload_n 1, 1) := by decide +kernel
theorem dX0_becomes_42 : decode cX0_becomes 42 = .ok (.getfield 32, 3) := by decide +kernel
theorem dX0_becomes_45 : decode cX0_becomes 45 = .ok (.putfield 32, 3) := by decide +kernel
theorem dX0_becomes_48 : decode cX0_becomes 48 = .ok (.aload_n 0, 1) := by decide +kernel
theorem dX0_becomes_49 : decode cX0_becomes 49 = .ok (.aload_n 1, 1) := by decide +kernel
theorem dX0_becomes_50 : decode cX0_becomes 50 = .ok (.getfield 36, 3) := by decide +kernel
theorem dX0_becomes_53 : decode cX0_becomes 53 = .ok (.putfield 36, 3) := by decide +kernel
theorem dX0_becomes_56 : decode cX0_becomes 56 = .ok (.return_, 1) := by decide +kernel
theorem dX0_hasRider_0 : decode cX0_hasRider 0 = .ok (.iload_n 1, 1) := by decide +kernel
theorem dX0_hasRider_1 : decode cX0_hasRider 1 = .ok (.ifCond .lt 21, 3) := by decide +kernel
theorem dX0_hasRider_4 : decode cX0_hasRider 4 = .ok (.iload_n 1, 1) := by decide +kernel
theorem dX0_hasRider_5 : decode cX0_hasRider 5 = .ok (.aload_n 0, 1) := by decide +kernel
theorem dX0_hasRider_6 : decode cX0_hasRider 6 = .ok (.getfield 32, 3) := by decide +kernel
theorem dX0_hasRider_9 : decode cX0_hasRider 9 = .ok (.if_icmp .ge 13, 3) := by decide +kernel
theorem dX0_hasRider_12 : decode cX0_hasRider 12 = .ok (.iload_n 1, 1) := by decide +kernel
theorem dX0_hasRider_13 : decode cX0_hasRider 13 = .ok (.bipush 6, 2) := by decide +kernel
theorem dX0_hasRider_15 : decode cX0_hasRider 15 = .ok (.if_icmp .ge 7, 3) := by decide +kernel
theorem dX0_hasRider_18 : decode cX0_hasRider 18 = .ok (.iconst 1, 1) := by decide +kernel
theorem dX0_hasRider_19 : decode cX0_hasRider 19 = .ok (.goto 4, 3) := by decide +kernel
theorem dX0_hasRider_22 : decode cX0_hasRider 22 = .ok (.iconst 0, 1) := by decide +kernel
theorem dX0_hasRider_23 : decode cX0_hasRider 23 = .ok (.ireturn, 1) := by decide +kernel
theorem dX0_changeRoad_0 : decode cX0_changeRoad 0 = .ok (.iload_n 1, 1) := by decide +kernel
theorem dX0_changeRoad_1 : decode cX0_changeRoad 1 = .ok (.invokestatic 39, 3) := by decide +kernel
theorem dX0_changeRoad_4 : decode cX0_changeRoad 4 = .ok (.ifCond .eq 15, 3) := by decide +kernel
theorem dX0_changeRoad_7 : decode cX0_changeRoad 7 = .ok (.iload_n 2, 1) := by decide +kernel
theorem dX0_changeRoad_8 : decode cX0_changeRoad 8 = .ok (.invokestatic 39, 3) := by decide +kernel
theorem dX0_changeRoad_11 : decode cX0_changeRoad 11 = .ok (.ifCond .eq 8, 3) := by decide +kernel
theorem dX0_changeRoad_14 : decode cX0_changeRoad 14 = .ok (.iload_n 1, 1) := by decide +kernel
theorem dX0_changeRoad_15 : decode cX0_changeRoad 15 = .ok (.iload_n 2, 1) := by decide +kernel
theorem dX0_changeRoad_16 : decode cX0_changeRoad 16 = .ok (.if_icmp .ne 5, 3) := by decide +kernel
theorem dX0_changeRoad_19 : decode cX0_changeRoad 19 = .ok (.iconst 0, 1) := by decide +kernel
theorem dX0_changeRoad_20 : decode cX0_changeRoad 20 = .ok (.ireturn, 1) := by decide +kernel
theorem dX0_changeRoad_21 : decode cX0_changeRoad 21 = .ok (.aload_n 0, 1) := by decide +kernel
theorem dX0_changeRoad_22 : decode cX0_changeRoad 22 = .ok (.getfield 12, 3) := by decide +kernel
theorem dX0_changeRoad_25 : decode cX0_changeRoad 25 = .ok (.iload_n 1, 1) := by decide +kernel
theorem dX0_changeRoad_26 : decode cX0_changeRoad 26 = .ok (.iload_n 2, 1) := by decide +kernel
theorem dX0_changeRoad_27 : decode cX0_changeRoad 27 = .ok (.invokevirtual 43, 3) := by decide +kernel
theorem dX0_changeRoad_30 : decode cX0_changeRoad 30 = .ok (.iconst 1, 1) := by decide +kernel
theorem dX0_changeRoad_31 : decode cX0_changeRoad 31 = .ok (.ireturn, 1) := by decide +kernel
theorem dX0_addRider_0 : decode cX0_addRider 0 = .ok (.aload_n 0, 1) := by decide +kernel
theorem dX0_addRider_1 : decode cX0_addRider 1 = .ok (.getfield 32, 3) := by decide +kernel
theorem dX0_addRider_4 : decode cX0_addRider 4 = .ok (.bipush 6, 2) := by decide +kernel
theorem dX0_addRider_6 : decode cX0_addRider 6 = .ok (.if_icmp .ge 26, 3) := by decide +kernel
theorem dX0_addRider_9 : decode cX0_addRider 9 = .ok (.iload_n 3, 1) := by decide +kernel
theorem dX0_addRider_10 : decode cX0_addRider 10 = .ok (.invokestatic 39, 3) := by decide +kernel
theorem dX0_addRider_13 : decode cX0_addRider 13 = .ok (.ifCond .eq 19, 3) := by decide +kernel
theorem dX0_addRider_16 : decode cX0_addRider 16 = .ok (.iload 4, 2) := by decide +kernel
theorem dX0_addRider_18 : decode cX0_addRider 18 = .ok (.invokestatic 39, 3) := by decide +kernel
theorem dX0_addRider_21 : decode cX0_addRider 21 = .ok (.ifCond .eq 11, 3) := by decide +kernel
theorem dX0_addRider_24 : decode cX0_addRider 24 = .ok (.iload 5, 2) := by decide +kernel
theorem dX0_addRider_26 : decode cX0_addRider 26 = .ok (.invokestatic 39, 3) := by decide +kernel
theorem dX0_addRider_29 : decode cX0_addRider 29 = .ok (.ifCond .ne 5, 3) := by decide +kernel
theorem dX0_addRider_32 : decode cX0_addRider 32 = .ok (.iconst 0, 1) := by decide +kernel
theorem dX0_addRider_33 : decode cX0_addRider 33 = .ok (.ireturn, 1) := by decide +kernel
theorem dX0_addRider_34 : decode cX0_addRider 34 = .ok (.aload_n 0, 1) := by decide +kernel
theorem dX0_addRider_35 : decode cX0_addRider 35 = .ok (.getfield 20, 3) := by decide +kernel
theorem dX0_addRider_38 : decode cX0_addRider 38 = .ok (.aload_n 0, 1) := by decide +kernel
theorem dX0_addRider_39 : decode cX0_addRider 39 = .ok (.getfield 32, 3) := by decide +kernel
theorem dX0_addRider_42 : decode cX0_addRider 42 = .ok (.aaload, 1) := by decide +kernel
theorem dX0_addRider_43 : decode cX0_addRider 43 = .ok (.astore 6, 2) := by decide +kernel
theorem dX0_addRider_45 : decode cX0_addRider 45 = .ok (.aload 6, 2) := by decide +kernel
theorem dX0_addRider_47 : decode cX0_addRider 47 = .ok (.iload_n 1, 1) := by decide +kernel
theorem dX0_addRider_48 : decode cX0_addRider 48 = .ok (.putfield 47, 3) := by decide +kernel
theorem dX0_addRider_51 : decode cX0_addRider 51 = .ok (.aload 6, 2) := by decide +kernel
theorem dX0_addRider_53 : decode cX0_addRider 53 = .ok (.iload_n 2, 1) := by decide +kernel
theorem dX0_addRider_54 : decode cX0_addRider 54 = .ok (.putfield 50, 3) := by decide +kernel
theorem dX0_addRider_57 : decode cX0_addRider 57 = .ok (.aload 6, 2) := by decide +kernel
theorem dX0_addRider_59 : decode cX0_addRider 59 = .ok (.iload_n 3, 1) := by decide +kernel
theorem dX0_addRider_60 : decode cX0_addRider 60 = .ok (.putfield 53, 3) := by decide +kernel
theorem dX0_addRider_63 : decode cX0_addRider 63 = .ok (.aload 6, 2) := by decide +kernel
theorem dX0_addRider_65 : decode cX0_addRider 65 = .ok (.iload 4, 2) := by decide +kernel
theorem dX0_addRider_67 : decode cX0_addRider 67 = .ok (.putfield 56, 3) := by decide +kernel
theorem dX0_addRider_70 : decode cX0_addRider 70 = .ok (.aload 6, 2) := by decide +kernel
theorem dX0_addRider_72 : decode cX0_addRider 72 = .ok (.iload 5, 2) := by decide +kernel
theorem dX0_addRider_74 : decode cX0_addRider 74 = .ok (.putfield 59, 3) := by decide +kernel
theorem dX0_addRider_77 : decode cX0_addRider 77 = .ok (.aload 6, 2) := by decide +kernel
theorem dX0_addRider_79 : decode cX0_addRider 79 = .ok (.invokevirtual 62, 3) := by decide +kernel
theorem dX0_addRider_82 : decode cX0_addRider 82 = .ok (.aload_n 0, 1) := by decide +kernel
theorem dX0_addRider_83 : decode cX0_addRider 83 = .ok (.dup, 1) := by decide +kernel
theorem dX0_addRider_84 : decode cX0_addRider 84 = .ok (.getfield 32, 3) := by decide +kernel
theorem dX0_addRider_87 : decode cX0_addRider 87 = .ok (.iconst 1, 1) := by decide +kernel
theorem dX0_addRider_88 : decode cX0_addRider 88 = .ok (.iadd, 1) := by decide +kernel
theorem dX0_addRider_89 : decode cX0_addRider 89 = .ok (.putfield 32, 3) := by decide +kernel
theorem dX0_addRider_92 : decode cX0_addRider 92 = .ok (.iconst 1, 1) := by decide +kernel
theorem dX0_addRider_93 : decode cX0_addRider 93 = .ok (.ireturn, 1) := by decide +kernel
theorem dX0_shoeAnew_0 : decode cX0_shoeAnew 0 = .ok (.aload_n 0, 1) := by decide +kernel
theorem dX0_shoeAnew_1 : decode cX0_shoeAnew 1 = .ok (.iload_n 1, 1) := by decide +kernel
theorem dX0_shoeAnew_2 : decode cX0_shoeAnew 2 = .ok (.invokevirtual 65, 3) := by decide +kernel
theorem dX0_shoeAnew_5 : decode cX0_shoeAnew 5 = .ok (.ifCond .ne 5, 3) := by decide +kernel
theorem dX0_shoeAnew_8 : decode cX0_shoeAnew 8 = .ok (.iconst 0, 1) := by decide +kernel
theorem dX0_shoeAnew_9 : decode cX0_shoeAnew 9 = .ok (.ireturn, 1) := by decide +kernel
theorem dX0_shoeAnew_10 : decode cX0_shoeAnew 10 = .ok (.aload_n 0, 1) := by decide +kernel
theorem dX0_shoeAnew_11 : decode cX0_shoeAnew 11 = .ok (.getfield 20, 3) := by decide +kernel
theorem dX0_shoeAnew_14 : decode cX0_shoeAnew 14 = .ok (.iload_n 1, 1) := by decide +kernel
theorem dX0_shoeAnew_15 : decode cX0_shoeAnew 15 = .ok (.aaload, 1) := by decide +kernel
theorem dX0_shoeAnew_16 : decode cX0_shoeAnew 16 = .ok (.invokevirtual 62, 3) := by decide +kernel
theorem dX0_shoeAnew_19 : decode cX0_shoeAnew 19 = .ok (.iconst 1, 1) := by decide +kernel
theorem dX0_shoeAnew_20 : decode cX0_shoeAnew 20 = .ok (.ireturn, 1) := by decide +kernel
theorem dX0_setGoal_0 : decode cX0_setGoal 0 = .ok (.aload_n 0, 1) := by decide +kernel
theorem dX0_setGoal_1 : decode cX0_setGoal 1 = .ok (.iload_n 1, 1) := by decide +kernel
theorem dX0_setGoal_2 : decode cX0_setGoal 2 = .ok (.invokevirtual 65, 3) := by decide +kernel
theorem dX0_setGoal_5 : decode cX0_setGoal 5 = .ok (.ifCond .eq 10, 3) := by decide +kernel
theorem dX0_setGoal_8 : decode cX0_setGoal 8 = .ok (.iload_n 2, 1) := by decide +kernel
theorem dX0_setGoal_9 : decode cX0_setGoal 9 = .ok (.invokestatic 39, 3) := by decide +kernel
theorem dX0_setGoal_12 : decode cX0_setGoal 12 = .ok (.ifCond .ne 5, 3) := by decide +kernel
theorem dX0_setGoal_15 : decode cX0_setGoal 15 = .ok (.iconst 0, 1) := by decide +kernel
theorem dX0_setGoal_16 : decode cX0_setGoal 16 = .ok (.ireturn, 1) := by decide +kernel
theorem dX0_setGoal_17 : decode cX0_setGoal 17 = .ok (.aload_n 0, 1) := by decide +kernel
theorem dX0_setGoal_18 : decode cX0_setGoal 18 = .ok (.getfield 20, 3) := by decide +kernel
theorem dX0_setGoal_21 : decode cX0_setGoal 21 = .ok (.iload_n 1, 1) := by decide +kernel
theorem dX0_setGoal_22 : decode cX0_setGoal 22 = .ok (.aaload, 1) := by decide +kernel
theorem dX0_setGoal_23 : decode cX0_setGoal 23 = .ok (.iload_n 2, 1) := by decide +kernel
theorem dX0_setGoal_24 : decode cX0_setGoal 24 = .ok (.putfield 53, 3) := by decide +kernel
theorem dX0_setGoal_27 : decode cX0_setGoal 27 = .ok (.iconst 1, 1) := by decide +kernel
theorem dX0_setGoal_28 : decode cX0_setGoal 28 = .ok (.ireturn, 1) := by decide +kernel
theorem dX0_setAt_0 : decode cX0_setAt 0 = .ok (.aload_n 0, 1) := by decide +kernel
theorem dX0_setAt_1 : decode cX0_setAt 1 = .ok (.iload_n 1, 1) := by decide +kernel
theorem dX0_setAt_2 : decode cX0_setAt 2 = .ok (.invokevirtual 65, 3) := by decide +kernel
theorem dX0_setAt_5 : decode cX0_setAt 5 = .ok (.ifCond .eq 10, 3) := by decide +kernel
theorem dX0_setAt_8 : decode cX0_setAt 8 = .ok (.iload_n 2, 1) := by decide +kernel
theorem dX0_setAt_9 : decode cX0_setAt 9 = .ok (.invokestatic 39, 3) := by decide +kernel
theorem dX0_setAt_12 : decode cX0_setAt 12 = .ok (.ifCond .ne 5, 3) := by decide +kernel
theorem dX0_setAt_15 : decode cX0_setAt 15 = .ok (.iconst 0, 1) := by decide +kernel
theorem dX0_setAt_16 : decode cX0_setAt 16 = .ok (.ireturn, 1) := by decide +kernel
theorem dX0_setAt_17 : decode cX0_setAt 17 = .ok (.aload_n 0, 1) := by decide +kernel
theorem dX0_setAt_18 : decode cX0_setAt 18 = .ok (.getfield 20, 3) := by decide +kernel
theorem dX0_setAt_21 : decode cX0_setAt 21 = .ok (.iload_n 1, 1) := by decide +kernel
theorem dX0_setAt_22 : decode cX0_setAt 22 = .ok (.aaload, 1) := by decide +kernel
theorem dX0_setAt_23 : decode cX0_setAt 23 = .ok (.iload_n 2, 1) := by decide +kernel
theorem dX0_setAt_24 : decode cX0_setAt 24 = .ok (.putfield 59, 3) := by decide +kernel
theorem dX0_setAt_27 : decode cX0_setAt 27 = .ok (.iconst 1, 1) := by decide +kernel
theorem dX0_setAt_28 : decode cX0_setAt 28 = .ok (.ireturn, 1) := by decide +kernel
theorem dX0_passDays_0 : decode cX0_passDays 0 = .ok (.iload_n 1, 1) := by decide +kernel
theorem dX0_passDays_1 : decode cX0_passDays 1 = .ok (.iconst 1, 1) := by decide +kernel
theorem dX0_passDays_2 : decode cX0_passDays 2 = .ok (.if_icmp .lt 21, 3) := by decide +kernel
theorem dX0_passDays_5 : decode cX0_passDays 5 = .ok (.iload_n 1, 1) := by decide +kernel
theorem dX0_passDays_6 : decode cX0_passDays 6 = .ok (.bipush 60, 2) := by decide +kernel
theorem dX0_passDays_8 : decode cX0_passDays 8 = .ok (.if_icmp .gt 15, 3) := by decide +kernel
theorem dX0_passDays_11 : decode cX0_passDays 11 = .ok (.aload_n 0, 1) := by decide +kernel
theorem dX0_passDays_12 : decode cX0_passDays 12 = .ok (.getfield 36, 3) := by decide +kernel
theorem dX0_passDays_15 : decode cX0_passDays 15 = .ok (.iload_n 1, 1) := by decide +kernel
theorem dX0_passDays_16 : decode cX0_passDays 16 = .ok (.iadd, 1) := by decide +kernel
theorem dX0_passDays_17 : decode cX0_passDays 17 = .ok (.sipush 999, 3) := by decide +kernel
theorem dX0_passDays_20 : decode cX0_passDays 20 = .ok (.if_icmp .le 5, 3) := by decide +kernel
theorem dX0_passDays_23 : decode cX0_passDays 23 = .ok (.iconst 0, 1) := by decide +kernel
theorem dX0_passDays_24 : decode cX0_passDays 24 = .ok (.ireturn, 1) := by decide +kernel
theorem dX0_passDays_25 : decode cX0_passDays 25 = .ok (.aload_n 0, 1) := by decide +kernel
theorem dX0_passDays_26 : decode cX0_passDays 26 = .ok (.dup, 1) := by decide +kernel
theorem dX0_passDays_27 : decode cX0_passDays 27 = .ok (.getfield 36, 3) := by decide +kernel
theorem dX0_passDays_30 : decode cX0_passDays 30 = .ok (.iload_n 1, 1) := by decide +kernel
theorem dX0_passDays_31 : decode cX0_passDays 31 = .ok (.iadd, 1) := by decide +kernel
theorem dX0_passDays_32 : decode cX0_passDays 32 = .ok (.putfield 36, 3) := by decide +kernel
theorem dX0_passDays_35 : decode cX0_passDays 35 = .ok (.iconst 0, 1) := by decide +kernel
theorem dX0_passDays_36 : decode cX0_passDays 36 = .ok (.istore_n 2, 1) := by decide +kernel
theorem dX0_passDays_37 : decode cX0_passDays 37 = .ok (.iload_n 2, 1) := by decide +kernel
theorem dX0_passDays_38 : decode cX0_passDays 38 = .ok (.aload_n 0, 1) := by decide +kernel
theorem dX0_passDays_39 : decode cX0_passDays 39 = .ok (.getfield 32, 3) := by decide +kernel
theorem dX0_passDays_42 : decode cX0_passDays 42 = .ok (.if_icmp .ge 35, 3) := by decide +kernel
theorem dX0_passDays_45 : decode cX0_passDays 45 = .ok (.iconst 0, 1) := by decide +kernel
theorem dX0_passDays_46 : decode cX0_passDays 46 = .ok (.istore_n 3, 1) := by decide +kernel
theorem dX0_passDays_47 : decode cX0_passDays 47 = .ok (.iload_n 3, 1) := by decide +kernel
theorem dX0_passDays_48 : decode cX0_passDays 48 = .ok (.iload_n 1, 1) := by decide +kernel
theorem dX0_passDays_49 : decode cX0_passDays 49 = .ok (.if_icmp .ge 22, 3) := by decide +kernel
theorem dX0_passDays_52 : decode cX0_passDays 52 = .ok (.aload_n 0, 1) := by decide +kernel
theorem dX0_passDays_53 : decode cX0_passDays 53 = .ok (.getfield 20, 3) := by decide +kernel
theorem dX0_passDays_56 : decode cX0_passDays 56 = .ok (.iload_n 2, 1) := by decide +kernel
theorem dX0_passDays_57 : decode cX0_passDays 57 = .ok (.aaload, 1) := by decide +kernel
theorem dX0_passDays_58 : decode cX0_passDays 58 = .ok (.aload_n 0, 1) := by decide +kernel
theorem dX0_passDays_59 : decode cX0_passDays 59 = .ok (.getfield 12, 3) := by decide +kernel
theorem dX0_passDays_62 : decode cX0_passDays 62 = .ok (.invokevirtual 68, 3) := by decide +kernel
theorem dX0_passDays_65 : decode cX0_passDays 65 = .ok (.iinc 3 1, 3) := by decide +kernel
theorem dX0_passDays_68 : decode cX0_passDays 68 = .ok (.goto (-21), 3) := by decide +kernel
theorem dX0_passDays_71 : decode cX0_passDays 71 = .ok (.iinc 2 1, 3) := by decide +kernel
theorem dX0_passDays_74 : decode cX0_passDays 74 = .ok (.goto (-37), 3) := by decide +kernel
theorem dX0_passDays_77 : decode cX0_passDays 77 = .ok (.iconst 1, 1) := by decide +kernel
theorem dX0_passDays_78 : decode cX0_passDays 78 = .ok (.ireturn, 1) := by decide +kernel
theorem dX0_arrivedBits_0 : decode cX0_arrivedBits 0 = .ok (.iconst 0, 1) := by decide +kernel
theorem dX0_arrivedBits_1 : decode cX0_arrivedBits 1 = .ok (.istore_n 1, 1) := by decide +kernel
theorem dX0_arrivedBits_2 : decode cX0_arrivedBits 2 = .ok (.iconst 0, 1) := by decide +kernel
theorem dX0_arrivedBits_3 : decode cX0_arrivedBits 3 = .ok (.istore_n 2, 1) := by decide +kernel
theorem dX0_arrivedBits_4 : decode cX0_arrivedBits 4 = .ok (.iload_n 2, 1) := by decide +kernel
theorem dX0_arrivedBits_5 : decode cX0_arrivedBits 5 = .ok (.aload_n 0, 1) := by decide +kernel
theorem dX0_arrivedBits_6 : decode cX0_arrivedBits 6 = .ok (.getfield 32, 3) := by decide +kernel
theorem dX0_arrivedBits_9 : decode cX0_arrivedBits 9 = .ok (.if_icmp .ge 27, 3) := by decide +kernel
theorem dX0_arrivedBits_12 : decode cX0_arrivedBits 12 = .ok (.aload_n 0, 1) := by decide +kernel
theorem dX0_arrivedBits_13 : decode cX0_arrivedBits 13 = .ok (.getfield 20, 3) := by decide +kernel
theorem dX0_arrivedBits_16 : decode cX0_arrivedBits 16 = .ok (.iload_n 2, 1) := by decide +kernel
theorem dX0_arrivedBits_17 : decode cX0_arrivedBits 17 = .ok (.aaload, 1) := by decide +kernel
theorem dX0_arrivedBits_18 : decode cX0_arrivedBits 18 = .ok (.invokevirtual 71, 3) := by decide +kernel
theorem dX0_arrivedBits_21 : decode cX0_arrivedBits 21 = .ok (.ifCond .eq 9, 3) := by decide +kernel
theorem dX0_arrivedBits_24 : decode cX0_arrivedBits 24 = .ok (.iload_n 1, 1) := by decide +kernel
theorem dX0_arrivedBits_25 : decode cX0_arrivedBits 25 = .ok (.iconst 1, 1) := by decide +kernel
theorem dX0_arrivedBits_26 : decode cX0_arrivedBits 26 = .ok (.iload_n 2, 1) := by decide +kernel
theorem dX0_arrivedBits_27 : decode cX0_arrivedBits 27 = .ok (.ishl, 1) := by decide +kernel
theorem dX0_arrivedBits_28 : decode cX0_arrivedBits 28 = .ok (.ior, 1) := by decide +kernel
theorem dX0_arrivedBits_29 : decode cX0_arrivedBits 29 = .ok (.istore_n 1, 1) := by decide +kernel
theorem dX0_arrivedBits_30 : decode cX0_arrivedBits 30 = .ok (.iinc 2 1, 3) := by decide +kernel
theorem dX0_arrivedBits_33 : decode cX0_arrivedBits 33 = .ok (.goto (-29), 3) := by decide +kernel
theorem dX0_arrivedBits_36 : decode cX0_arrivedBits 36 = .ok (.iload_n 1, 1) := by decide +kernel
theorem dX0_arrivedBits_37 : decode cX0_arrivedBits 37 = .ok (.ireturn, 1) := by decide +kernel
theorem dX0_honestBits_0 : decode cX0_honestBits 0 = .ok (.iconst 0, 1) := by decide +kernel
theorem dX0_honestBits_1 : decode cX0_honestBits 1 = .ok (.istore_n 1, 1) := by decide +kernel
theorem dX0_honestBits_2 : decode cX0_honestBits 2 = .ok (.iconst 0, 1) := by decide +kernel
theorem dX0_honestBits_3 : decode cX0_honestBits 3 = .ok (.istore_n 2, 1) := by decide +kernel
theorem dX0_honestBits_4 : decode cX0_honestBits 4 = .ok (.iload_n 2, 1) := by decide +kernel
theorem dX0_honestBits_5 : decode cX0_honestBits 5 = .ok (.aload_n 0, 1) := by decide +kernel
theorem dX0_honestBits_6 : decode cX0_honestBits 6 = .ok (.getfield 32, 3) := by decide +kernel
theorem dX0_honestBits_9 : decode cX0_honestBits 9 = .ok (.if_icmp .ge 36, 3) := by decide +kernel
theorem dX0_honestBits_12 : decode cX0_honestBits 12 = .ok (.aload_n 0, 1) := by decide +kernel
theorem dX0_honestBits_13 : decode cX0_honestBits 13 = .ok (.getfield 20, 3) := by decide +kernel
theorem dX0_honestBits_16 : decode cX0_honestBits 16 = .ok (.iload_n 2, 1) := by decide +kernel
theorem dX0_honestBits_17 : decode cX0_honestBits 17 = .ok (.aaload, 1) := by decide +kernel
theorem dX0_honestBits_18 : decode cX0_honestBits 18 = .ok (.getfield 53, 3) := by decide +kernel
theorem dX0_honestBits_21 : decode cX0_honestBits 21 = .ok (.aload_n 0, 1) := by decide +kernel
theorem dX0_honestBits_22 : decode cX0_honestBits 22 = .ok (.getfield 20, 3) := by decide +kernel
theorem dX0_honestBits_25 : decode cX0_honestBits 25 = .ok (.iload_n 2, 1) := by decide +kernel
theorem dX0_honestBits_26 : decode cX0_honestBits 26 = .ok (.aaload, 1) := by decide +kernel
theorem dX0_honestBits_27 : decode cX0_honestBits 27 = .ok (.getfield 56, 3) := by decide +kernel
theorem dX0_honestBits_30 : decode cX0_honestBits 30 = .ok (.if_icmp .ne 9, 3) := by decide +kernel
theorem dX0_honestBits_33 : decode cX0_honestBits 33 = .ok (.iload_n 1, 1) := by decide +kernel
theorem dX0_honestBits_34 : decode cX0_honestBits 34 = .ok (.iconst 1, 1) := by decide +kernel
theorem dX0_honestBits_35 : decode cX0_honestBits 35 = .ok (.iload_n 2, 1) := by decide +kernel
theorem dX0_honestBits_36 : decode cX0_honestBits 36 = .ok (.ishl, 1) := by decide +kernel
theorem dX0_honestBits_37 : decode cX0_honestBits 37 = .ok (.ior, 1) := by decide +kernel
theorem dX0_honestBits_38 : decode cX0_honestBits 38 = .ok (.istore_n 1, 1) := by decide +kernel
theorem dX0_honestBits_39 : decode cX0_honestBits 39 = .ok (.iinc 2 1, 3) := by decide +kernel
theorem dX0_honestBits_42 : decode cX0_honestBits 42 = .ok (.goto (-38), 3) := by decide +kernel
theorem dX0_honestBits_45 : decode cX0_honestBits 45 = .ok (.iload_n 1, 1) := by decide +kernel
theorem dX0_honestBits_46 : decode cX0_honestBits 46 = .ok (.ireturn, 1) := by decide +kernel
theorem dX0_lostBits_0 : decode cX0_lostBits 0 = .ok (.iconst 0, 1) := by decide +kernel
theorem dX0_lostBits_1 : decode cX0_lostBits 1 = .ok (.istore_n 1, 1) := by decide +kernel
theorem dX0_lostBits_2 : decode cX0_lostBits 2 = .ok (.iconst 0, 1) := by decide +kernel
theorem dX0_lostBits_3 : decode cX0_lostBits 3 = .ok (.istore_n 2, 1) := by decide +kernel
theorem dX0_lostBits_4 : decode cX0_lostBits 4 = .ok (.iload_n 2, 1) := by decide +kernel
theorem dX0_lostBits_5 : decode cX0_lostBits 5 = .ok (.aload_n 0, 1) := by decide +kernel
theorem dX0_lostBits_6 : decode cX0_lostBits 6 = .ok (.getfield 32, 3) := by decide +kernel
theorem dX0_lostBits_9 : decode cX0_lostBits 9 = .ok (.if_icmp .ge 33, 3) := by decide +kernel
theorem dX0_lostBits_12 : decode cX0_lostBits 12 = .ok (.aload_n 0, 1) := by decide +kernel
theorem dX0_lostBits_13 : decode cX0_lostBits 13 = .ok (.getfield 20, 3) := by decide +kernel
theorem dX0_lostBits_16 : decode cX0_lostBits 16 = .ok (.iload_n 2, 1) := by decide +kernel
theorem dX0_lostBits_17 : decode cX0_lostBits 17 = .ok (.aaload, 1) := by decide +kernel
theorem dX0_lostBits_18 : decode cX0_lostBits 18 = .ok (.aload_n 0, 1) := by decide +kernel
theorem dX0_lostBits_19 : decode cX0_lostBits 19 = .ok (.getfield 12, 3) := by decide +kernel
theorem dX0_lostBits_22 : decode cX0_lostBits 22 = .ok (.invokevirtual 75, 3) := by decide +kernel
theorem dX0_lostBits_25 : decode cX0_lostBits 25 = .ok (.bipush 9, 2) := by decide +kernel
theorem dX0_lostBits_27 : decode cX0_lostBits 27 = .ok (.if_icmp .ne 9, 3) := by decide +kernel
theorem dX0_lostBits_30 : decode cX0_lostBits 30 = .ok (.iload_n 1, 1) := by decide +kernel
theorem dX0_lostBits_31 : decode cX0_lostBits 31 = .ok (.iconst 1, 1) := by decide +kernel
theorem dX0_lostBits_32 : decode cX0_lostBits 32 = .ok (.iload_n 2, 1) := by decide +kernel
theorem dX0_lostBits_33 : decode cX0_lostBits 33 = .ok (.ishl, 1) := by decide +kernel
theorem dX0_lostBits_34 : decode cX0_lostBits 34 = .ok (.ior, 1) := by decide +kernel
theorem dX0_lostBits_35 : decode cX0_lostBits 35 = .ok (.istore_n 1, 1) := by decide +kernel
theorem dX0_lostBits_36 : decode cX0_lostBits 36 = .ok (.iinc 2 1, 3) := by decide +kernel
theorem dX0_lostBits_39 : decode cX0_lostBits 39 = .ok (.goto (-35), 3) := by decide +kernel
theorem dX0_lostBits_42 : decode cX0_lostBits 42 = .ok (.iload_n 1, 1) := by decide +kernel
theorem dX0_lostBits_43 : decode cX0_lostBits 43 = .ok (.ireturn, 1) := by decide +kernel
theorem dX0_allShoes_0 : decode cX0_allShoes 0 = .ok (.iconst 0, 1) := by decide +kernel
theorem dX0_allShoes_1 : decode cX0_allShoes 1 = .ok (.istore_n 1, 1) := by decide +kernel
theorem dX0_allShoes_2 : decode cX0_allShoes 2 = .ok (.iconst 0, 1) := by decide +kernel
theorem dX0_allShoes_3 : decode cX0_allShoes 3 = .ok (.istore_n 2, 1) := by decide +kernel
theorem dX0_allShoes_4 : decode cX0_allShoes 4 = .ok (.iload_n 2, 1) := by decide +kernel
theorem dX0_allShoes_5 : decode cX0_allShoes 5 = .ok (.aload_n 0, 1) := by decide +kernel
theorem dX0_allShoes_6 : decode cX0_allShoes 6 = .ok (.getfield 32, 3) := by decide +kernel
theorem dX0_allShoes_9 : decode cX0_allShoes 9 = .ok (.if_icmp .ge 21, 3) := by decide +kernel
theorem dX0_allShoes_12 : decode cX0_allShoes 12 = .ok (.iload_n 1, 1) := by decide +kernel
theorem dX0_allShoes_13 : decode cX0_allShoes 13 = .ok (.aload_n 0, 1) := by decide +kernel
theorem dX0_allShoes_14 : decode cX0_allShoes 14 = .ok (.getfield 20, 3) := by decide +kernel
theorem dX0_allShoes_17 : decode cX0_allShoes 17 = .ok (.iload_n 2, 1) := by decide +kernel
theorem dX0_allShoes_18 : decode cX0_allShoes 18 = .ok (.aaload, 1) := by decide +kernel
theorem dX0_allShoes_19 : decode cX0_allShoes 19 = .ok (.getfield 79, 3) := by decide +kernel
theorem dX0_allShoes_22 : decode cX0_allShoes 22 = .ok (.iadd, 1) := by decide +kernel
theorem dX0_allShoes_23 : decode cX0_allShoes 23 = .ok (.istore_n 1, 1) := by decide +kernel
theorem dX0_allShoes_24 : decode cX0_allShoes 24 = .ok (.iinc 2 1, 3) := by decide +kernel
theorem dX0_allShoes_27 : decode cX0_allShoes 27 = .ok (.goto (-23), 3) := by decide +kernel
theorem dX0_allShoes_30 : decode cX0_allShoes 30 = .ok (.iload_n 1, 1) := by decide +kernel
theorem dX0_allShoes_31 : decode cX0_allShoes 31 = .ok (.ireturn, 1) := by decide +kernel
theorem dX0_allWorn_0 : decode cX0_allWorn 0 = .ok (.iconst 0, 1) := by decide +kernel
theorem dX0_allWorn_1 : decode cX0_allWorn 1 = .ok (.istore_n 1, 1) := by decide +kernel
theorem dX0_allWorn_2 : decode cX0_allWorn 2 = .ok (.iconst 0, 1) := by decide +kernel
theorem dX0_allWorn_3 : decode cX0_allWorn 3 = .ok (.istore_n 2, 1) := by decide +kernel
theorem dX0_allWorn_4 : decode cX0_allWorn 4 = .ok (.iload_n 2, 1) := by decide +kernel
theorem dX0_allWorn_5 : decode cX0_allWorn 5 = .ok (.aload_n 0, 1) := by decide +kernel
theorem dX0_allWorn_6 : decode cX0_allWorn 6 = .ok (.getfield 32, 3) := by decide +kernel
theorem dX0_allWorn_9 : decode cX0_allWorn 9 = .ok (.if_icmp .ge 21, 3) := by decide +kernel
theorem dX0_allWorn_12 : decode cX0_allWorn 12 = .ok (.iload_n 1, 1) := by decide +kernel
theorem dX0_allWorn_13 : decode cX0_allWorn 13 = .ok (.aload_n 0, 1) := by decide +kernel
theorem dX0_allWorn_14 : decode cX0_allWorn 14 = .ok (.getfield 20, 3) := by decide +kernel
theorem dX0_allWorn_17 : decode cX0_allWorn 17 = .ok (.iload_n 2, 1) := by decide +kernel
theorem dX0_allWorn_18 : decode cX0_allWorn 18 = .ok (.aaload, 1) := by decide +kernel
theorem dX0_allWorn_19 : decode cX0_allWorn 19 = .ok (.getfield 82, 3) := by decide +kernel
theorem dX0_allWorn_22 : decode cX0_allWorn 22 = .ok (.iadd, 1) := by decide +kernel
theorem dX0_allWorn_23 : decode cX0_allWorn 23 = .ok (.istore_n 1, 1) := by decide +kernel
theorem dX0_allWorn_24 : decode cX0_allWorn 24 = .ok (.iinc 2 1, 3) := by decide +kernel
theorem dX0_allWorn_27 : decode cX0_allWorn 27 = .ok (.goto (-23), 3) := by decide +kernel
theorem dX0_allWorn_30 : decode cX0_allWorn 30 = .ok (.iload_n 1, 1) := by decide +kernel
theorem dX0_allWorn_31 : decode cX0_allWorn 31 = .ok (.ireturn, 1) := by decide +kernel
theorem dJ6_bitCount_0f7a4_0 : decode cJ6_bitCount_0f7a4 0 = .ok (.iload_n 0, 1) := by decide +kernel
theorem dJ6_bitCount_0f7a4_1 : decode cJ6_bitCount_0f7a4 1 = .ok (.iload_n 0, 1) := by decide +kernel
theorem dJ6_bitCount_0f7a4_2 : decode cJ6_bitCount_0f7a4 2 = .ok (.iconst 1, 1) := by decide +kernel
theorem dJ6_bitCount_0f7a4_3 : decode cJ6_bitCount_0f7a4 3 = .ok (.iushr, 1) := by decide +kernel
theorem dJ6_bitCount_0f7a4_4 : decode cJ6_bitCount_0f7a4 4 = .ok (.ldc_w 265, 3) := by decide +kernel
theorem dJ6_bitCount_0f7a4_7 : decode cJ6_bitCount_0f7a4 7 = .ok (.iand, 1) := by decide +kernel
theorem dJ6_bitCount_0f7a4_8 : decode cJ6_bitCount_0f7a4 8 = .ok (.isub, 1) := by decide +kernel
theorem dJ6_bitCount_0f7a4_9 : decode cJ6_bitCount_0f7a4 9 = .ok (.istore_n 0, 1) := by decide +kernel
theorem dJ6_bitCount_0f7a4_10 : decode cJ6_bitCount_0f7a4 10 = .ok (.iload_n 0, 1) := by decide +kernel
theorem dJ6_bitCount_0f7a4_11 : decode cJ6_bitCount_0f7a4 11 = .ok (.ldc_w 266, 3) := by decide +kernel
theorem dJ6_bitCount_0f7a4_14 : decode cJ6_bitCount_0f7a4 14 = .ok (.iand, 1) := by decide +kernel
theorem dJ6_bitCount_0f7a4_15 : decode cJ6_bitCount_0f7a4 15 = .ok (.iload_n 0, 1) := by decide +kernel
theorem dJ6_bitCount_0f7a4_16 : decode cJ6_bitCount_0f7a4 16 = .ok (.iconst 2, 1) := by decide +kernel
theorem dJ6_bitCount_0f7a4_17 : decode cJ6_bitCount_0f7a4 17 = .ok (.iushr, 1) := by decide +kernel
theorem dJ6_bitCount_0f7a4_18 : decode cJ6_bitCount_0f7a4 18 = .ok (.ldc_w 266, 3) := by decide +kernel
theorem dJ6_bitCount_0f7a4_21 : decode cJ6_bitCount_0f7a4 21 = .ok (.iand, 1) := by decide +kernel
theorem dJ6_bitCount_0f7a4_22 : decode cJ6_bitCount_0f7a4 22 = .ok (.iadd, 1) := by decide +kernel
theorem dJ6_bitCount_0f7a4_23 : decode cJ6_bitCount_0f7a4 23 = .ok (.istore_n 0, 1) := by decide +kernel
theorem dJ6_bitCount_0f7a4_24 : decode cJ6_bitCount_0f7a4 24 = .ok (.iload_n 0, 1) := by decide +kernel
theorem dJ6_bitCount_0f7a4_25 : decode cJ6_bitCount_0f7a4 25 = .ok (.iload_n 0, 1) := by decide +kernel
theorem dJ6_bitCount_0f7a4_26 : decode cJ6_bitCount_0f7a4 26 = .ok (.iconst 4, 1) := by decide +kernel
theorem dJ6_bitCount_0f7a4_27 : decode cJ6_bitCount_0f7a4 27 = .ok (.iushr, 1) := by decide +kernel
theorem dJ6_bitCount_0f7a4_28 : decode cJ6_bitCount_0f7a4 28 = .ok (.iadd, 1) := by decide +kernel
theorem dJ6_bitCount_0f7a4_29 : decode cJ6_bitCount_0f7a4 29 = .ok (.ldc_w 267, 3) := by decide +kernel
theorem dJ6_bitCount_0f7a4_32 : decode cJ6_bitCount_0f7a4 32 = .ok (.iand, 1) := by decide +kernel
theorem dJ6_bitCount_0f7a4_33 : decode cJ6_bitCount_0f7a4 33 = .ok (.istore_n 0, 1) := by decide +kernel
theorem dJ6_bitCount_0f7a4_34 : decode cJ6_bitCount_0f7a4 34 = .ok (.iload_n 0, 1) := by decide +kernel
theorem dJ6_bitCount_0f7a4_35 : decode cJ6_bitCount_0f7a4 35 = .ok (.iload_n 0, 1) := by decide +kernel
theorem dJ6_bitCount_0f7a4_36 : decode cJ6_bitCount_0f7a4 36 = .ok (.bipush 8, 2) := by decide +kernel
theorem dJ6_bitCount_0f7a4_38 : decode cJ6_bitCount_0f7a4 38 = .ok (.iushr, 1) := by decide +kernel
theorem dJ6_bitCount_0f7a4_39 : decode cJ6_bitCount_0f7a4 39 = .ok (.iadd, 1) := by decide +kernel
theorem dJ6_bitCount_0f7a4_40 : decode cJ6_bitCount_0f7a4 40 = .ok (.istore_n 0, 1) := by decide +kernel
theorem dJ6_bitCount_0f7a4_41 : decode cJ6_bitCount_0f7a4 41 = .ok (.iload_n 0, 1) := by decide +kernel
theorem dJ6_bitCount_0f7a4_42 : decode cJ6_bitCount_0f7a4 42 = .ok (.iload_n 0, 1) := by decide +kernel
theorem dJ6_bitCount_0f7a4_43 : decode cJ6_bitCount_0f7a4 43 = .ok (.bipush 16, 2) := by decide +kernel
theorem dJ6_bitCount_0f7a4_45 : decode cJ6_bitCount_0f7a4 45 = .ok (.iushr, 1) := by decide +kernel
theorem dJ6_bitCount_0f7a4_46 : decode cJ6_bitCount_0f7a4 46 = .ok (.iadd, 1) := by decide +kernel
theorem dJ6_bitCount_0f7a4_47 : decode cJ6_bitCount_0f7a4 47 = .ok (.istore_n 0, 1) := by decide +kernel
theorem dJ6_bitCount_0f7a4_48 : decode cJ6_bitCount_0f7a4 48 = .ok (.iload_n 0, 1) := by decide +kernel
theorem dJ6_bitCount_0f7a4_49 : decode cJ6_bitCount_0f7a4 49 = .ok (.bipush 63, 2) := by decide +kernel
theorem dJ6_bitCount_0f7a4_51 : decode cJ6_bitCount_0f7a4 51 = .ok (.iand, 1) := by decide +kernel
theorem dJ6_bitCount_0f7a4_52 : decode cJ6_bitCount_0f7a4 52 = .ok (.ireturn, 1) := by decide +kernel
theorem dJ9_max_7cf53_0 : decode cJ9_max_7cf53 0 = .ok (.iload_n 0, 1) := by decide +kernel
theorem dJ9_max_7cf53_1 : decode cJ9_max_7cf53 1 = .ok (.iload_n 1, 1) := by decide +kernel
theorem dJ9_max_7cf53_2 : decode cJ9_max_7cf53 2 = .ok (.if_icmp .lt 7, 3) := by decide +kernel
theorem dJ9_max_7cf53_5 : decode cJ9_max_7cf53 5 = .ok (.iload_n 0, 1) := by decide +kernel
theorem dJ9_max_7cf53_6 : decode cJ9_max_7cf53 6 = .ok (.goto 4, 3) := by decide +kernel
theorem dJ9_max_7cf53_9 : decode cJ9_max_7cf53 9 = .ok (.iload_n 1, 1) := by decide +kernel
theorem dJ9_max_7cf53_10 : decode cJ9_max_7cf53 10 = .ok (.ireturn, 1) := by decide +kernel
theorem dJ9_min_7cf53_0 : decode cJ9_min_7cf53 0 = .ok (.iload_n 0, 1) := by decide +kernel
theorem dJ9_min_7cf53_1 : decode cJ9_min_7cf53 1 = .ok (.iload_n 1, 1) := by decide +kernel
theorem dJ9_min_7cf53_2 : decode cJ9_min_7cf53 2 = .ok (.if_icmp .gt 7, 3) := by decide +kernel
theorem dJ9_min_7cf53_5 : decode cJ9_min_7cf53 5 = .ok (.iload_n 0, 1) := by decide +kernel
theorem dJ9_min_7cf53_6 : decode cJ9_min_7cf53 6 = .ok (.goto 4, 3) := by decide +kernel
theorem dJ9_min_7cf53_9 : decode cJ9_min_7cf53 9 = .ok (.iload_n 1, 1) := by decide +kernel
theorem dJ9_min_7cf53_10 : decode cJ9_min_7cf53 10 = .ok (.ireturn, 1) := by decide +kernel
end
section
/-! the judgement zk_R: a method of a class whose objects are all made, over a static shape; memory as numbers by object and slot -/
abbrev zk_Sh : Type := Nat × (Nat → Nat) × (Nat → Nat) × (Nat → Nat → Nat)
abbrev zk_M : Type := Nat → Nat → Int32
abbrev zk_L : Type := Nat → Nat → Int64
/-- a method: name, code, locals, answer, its class -/
abbrev zk_I : Type := MethodName × ByteArray × Nat × Option FieldType × String
def zk_isref (c k : Nat) : Bool := match c with
  | 0 => decide (k < 2)
  | 2 => true
  | 3 => decide (k = 0)
  | 4 => decide (k < 12)
  | 5 => decide (k < 5) || decide (6 ≤ k ∧ k < 9) || decide (12 ≤ k ∧ k < 14)
  | _ => false
def zk_nf (c : Nat) : Nat := match c with
  | 0 => 4
  | 1 => 7
  | 2 => 2
  | 3 => 2
  | 4 => 14
  | 5 => 15
  | _ => 0
def zk_mv (ad : Nat → Nat) (v : Value) : Value := match v with
  | .ref k => .ref (ad k)
  | v => v
theorem zk_mv_cat (ad : Nat → Nat) (v : Value) : (zk_mv ad v).category = v.category := by cases v <;> rfl
def zk_fv (ad : Nat → Nat) (σ : zk_Sh) (M : zk_M) (o k : Nat) : Value := if zk_isref (σ.2.1 o) k = true then .ref (ad (σ.2.2.2 o k)) else .int (M o k)
def zk_ent (ad : Nat → Nat) (cs : ClassId × ClassId × ClassId) (σ : zk_Sh) (M : zk_M) (L : zk_L) (o : Nat) : va_E :=
  if σ.2.1 o = 100 then .inl (cs.1, σ.2.2.1 o, .inl (M o))
  else if σ.2.1 o = 101 then .inl (cs.2.1, σ.2.2.1 o, .inr (.inl (L o)))
  else if σ.2.1 o = 102 then .inl (cs.2.2, σ.2.2.1 o, .inr (.inr (.inr (.inr (fun j => some (ad (σ.2.2.2 o j)))))))
  else .inr (σ.2.1 o, (List.range (zk_nf (σ.2.1 o))).map (zk_fv ad σ M o))
def zk_ws (ad : Nat → Nat) (cs : ClassId × ClassId × ClassId) (σ : zk_Sh) (M : zk_M) (L : zk_L) : va_W := (List.range σ.1).map (fun o => (ad o, zk_ent ad cs σ M L o))
def zk_ty (cs : ClassId × ClassId × ClassId) : List (ClassId × FieldType) := [(cs.1, .int), (cs.2.1, .long), (cs.2.2, .object RX1)]
def zk_A (σ : zk_Sh) (ad : Nat → Nat) (sz : Nat) : Nat → Prop := fun q => (∃ o, o < σ.1 ∧ q = ad o) ∨ sz ≤ q
def zk_tb : List Cond := lw_tbl.filter goodWord
def zk_nw : List Cond := lw_tbl.filter (fun w => match w with | .methodLinkNest _ _ _ _ => true | _ => false)
def zk_wd (μ : zk_I) : List Cond := .code μ.1 μ.2.1 μ.2.2.1 μ.2.2.2.1 :: zk_tb
def zk_rm (d : Nat) : Room := { frames := d, cells := 0, slots := 0, locals := 38 * d }
def zk_lv (lsA : Array Slot) (nL : Nat) (ad : Nat → Nat) (ls : List (Option Value)) : Prop := lsA.size = nL ∧ lv_wf lsA ∧ ls.length = nL ∧ ∀ (i : Nat) (v : Value), ls[i]? = some (some v) → lsA[i]? = some (.val (zk_mv ad v))
def zk_X (μ : zk_I) (cs : ClassId × ClassId × ClassId) (D : va_G) (p : Program) (s : State) (m : MethodId) (args : Array Value) (meth : Method) (c : Code) : Prop :=
  p.tables.exec = Jvm.exec ∧ c.code = μ.2.1 ∧ meth.sig.returnType = μ.2.2.2.1 ∧ c.maxLocals = μ.2.2.1 ∧ s.vm.findClass μ.2.2.2.2 = some m.cls ∧ (∀ w ∈ zk_tb, w.before args s = true) ∧ (∀ w ∈ zk_nw, va_Nw w s) ∧ meth.locks = false ∧ va_K D vwCl (zk_ty cs) s
def zk_H (σ : zk_Sh) (ad : Nat → Nat) (cs : ClassId × ClassId × ClassId) (D : va_G) (A : Nat → Prop) (M : zk_M) (L : zk_L) (H : Heap) : Prop := va_P D vwCl (zk_ws ad cs σ M L) H ∧ va_D A (zk_ws ad cs σ M L)
def zk_Q (σ : zk_Sh) (ad : Nat → Nat) (cs : ClassId × ClassId × ClassId) (D : va_G) (A : Nat → Prop) (Q : Option Value → zk_M → zk_L → Prop) : Array Value → State → Outcome → State → Prop := fun _ st oc t =>
  (∃ (r : Option Value) (M : zk_M) (L : zk_L), oc = .returned (r.map (zk_mv ad)) ∧ Q r M L ∧ zk_H σ ad cs D A M L t.heap ∧ va_K D vwCl (zk_ty cs) t) ∧ va_F A st t
/-- at pc with these locals and this stack, over this memory, the method comes to its end, with Q -/
def zk_R (l : Launch) (σ : zk_Sh) (d : Nat) (μ : zk_I) (pc : Nat) (ls : List (Option Value)) (st : List Value) (M : zk_M) (L : zk_L) (Q : Option Value → zk_M → zk_L → Prop) : Prop :=
  ∀ (p : Program) (e : Env) (s : State) (m : MethodId) (args : Array Value) (below : List Frame) (meth : Method) (c : Code) (ad : Nat → Nat) (cs : ClassId × ClassId × ClassId) (D : va_G) (H : Heap) (locs : List Loc) (lsA : Array Slot),
    zk_X μ cs D p s m args meth c → zk_H σ ad cs D (zk_A σ ad s.heap.size) M L H → va_S (zk_A σ ad s.heap.size) s.heap H locs → zk_lv lsA μ.2.2.1 ad ls →
    W p l e (zk_rm d) s m args below meth c H locs 0 0 (MQ below (zk_Q σ ad cs D (zk_A σ ad s.heap.size) Q) args s 0 0 (zk_A σ ad s.heap.size)) (F0 m pc lsA (st.map (zk_mv ad)))
/-- the contract of a method -/
def zk_C (l : Launch) (σ : zk_Sh) (d : Nat) (μ : zk_I) (as : List Value) (M : zk_M) (L : zk_L) (Q : Option Value → zk_M → zk_L → Prop) : Prop :=
  ∀ (ad : Nat → Nat) (cs : ClassId × ClassId × ClassId) (D : va_G) (sz : Nat), Met l μ.1 (zk_wd μ) (zk_rm d) (va_Pc (as.map (zk_mv ad)) (fun U => U.heap.size = sz ∧ zk_H σ ad cs D (fun _ => True) M L U.heap ∧ va_K D vwCl (zk_ty cs) U ∧ ∀ w ∈ zk_nw, va_Nw w U)) (zk_Q σ ad cs D (zk_A σ ad sz) Q) 0 0 (zk_A σ ad sz)
def zk_Ei (v : Int32) (M' : zk_M) (L' : zk_L) : Option Value → zk_M → zk_L → Prop := fun r M L => r = some (.int v) ∧ M = M' ∧ L = L'
def zk_El (v : Int64) (M' : zk_M) (L' : zk_L) : Option Value → zk_M → zk_L → Prop := fun r M L => r = some (.long v) ∧ M = M' ∧ L = L'
def zk_Ev (M' : zk_M) (L' : zk_L) : Option Value → zk_M → zk_L → Prop := fun r M L => r = none ∧ M = M' ∧ L = L'
theorem zk_in {w : Cond} (i : Nat) (h : lw_tbl[i]? = some w) (hg : goodWord w = true) : w ∈ zk_tb := List.mem_filter.mpr ⟨List.mem_of_getElem? h, hg⟩
theorem zk_good : ∀ w ∈ zk_tb, (w.onTables && w.keeps) = true ∨ ∃ ty, w = .arrayClass ty := fun _ h => good_of_word (List.mem_filter.mp h).2
theorem zk_at {ad : Nat → Nat} {cs : ClassId × ClassId × ClassId} {σ : zk_Sh} {M : zk_M} {L : zk_L} {o : Nat} (ho : o < σ.1) : (zk_ws ad cs σ M L)[o]? = some (ad o, zk_ent ad cs σ M L o) := by simp [zk_ws, ho]
theorem zk_ent_o {ad : Nat → Nat} {cs : ClassId × ClassId × ClassId} {σ : zk_Sh} {M : zk_M} {L : zk_L} {o c : Nat} (hc : σ.2.1 o = c) (h6 : c < 6) : zk_ent ad cs σ M L o = .inr (c, (List.range (zk_nf c)).map (zk_fv ad σ M o)) := by
  subst hc
  simp only [zk_ent]
  rw [if_neg (by omega), if_neg (by omega), if_neg (by omega)]
theorem zk_ent_i {ad : Nat → Nat} {cs : ClassId × ClassId × ClassId} {σ : zk_Sh} {M : zk_M} {L : zk_L} {o : Nat} (hc : σ.2.1 o = 100) : zk_ent ad cs σ M L o = .inl (cs.1, σ.2.2.1 o, .inl (M o)) := by simp [zk_ent, hc]
theorem zk_ent_l {ad : Nat → Nat} {cs : ClassId × ClassId × ClassId} {σ : zk_Sh} {M : zk_M} {L : zk_L} {o : Nat} (hc : σ.2.1 o = 101) : zk_ent ad cs σ M L o = .inl (cs.2.1, σ.2.2.1 o, .inr (.inl (L o))) := by simp [zk_ent, hc]
theorem zk_ent_q {ad : Nat → Nat} {cs : ClassId × ClassId × ClassId} {σ : zk_Sh} {M : zk_M} {L : zk_L} {o : Nat} (hc : σ.2.1 o = 102) : zk_ent ad cs σ M L o = .inl (cs.2.2, σ.2.2.1 o, .inr (.inr (.inr (.inr (fun j => some (ad (σ.2.2.2 o j))))))) := by simp [zk_ent, hc]
theorem zk_up_ne {α : Type} {f : Nat → α} {k j : Nat} {v : α} (h : j ≠ k) : va_up f k v j = f j := by simp [va_up, h]
theorem zk_up_eq {α : Type} {f : Nat → α} {k : Nat} {v : α} : va_up f k v k = v := by simp [va_up]
theorem zk_ent_congr {ad : Nat → Nat} {cs : ClassId × ClassId × ClassId} {σ : zk_Sh} {M M' : zk_M} {L L' : zk_L} {j : Nat} (h : M j = M' j) (h' : L j = L' j) : zk_ent ad cs σ M L j = zk_ent ad cs σ M' L' j := by
  have e : zk_fv ad σ M j = zk_fv ad σ M' j := by funext k; simp only [zk_fv, h]
  simp only [zk_ent, h, h', e]
theorem zk_setW {ad : Nat → Nat} {cs : ClassId × ClassId × ClassId} {σ : zk_Sh} {M M' : zk_M} {L L' : zk_L} {o : Nat} (hM : ∀ j, j ≠ o → M j = M' j) (hL : ∀ j, j ≠ o → L j = L' j) : (zk_ws ad cs σ M L).set o (ad o, zk_ent ad cs σ M' L' o) = zk_ws ad cs σ M' L' := by
  apply List.ext_getElem?
  intro j
  by_cases hj : j = o
  · subst hj
    by_cases hl : j < σ.1
    · rw [List.getElem?_set_self (by simp [zk_ws, hl]), zk_at hl]
    · rw [List.getElem?_eq_none (by simp [zk_ws]; omega), List.getElem?_eq_none (by simp [zk_ws]; omega)]
  · rw [List.getElem?_set_ne (fun h => hj h.symm)]
    by_cases hl : j < σ.1
    · rw [zk_at hl, zk_at hl, zk_ent_congr (hM j hj) (hL j hj)]
    · rw [List.getElem?_eq_none (by simp [zk_ws]; omega), List.getElem?_eq_none (by simp [zk_ws]; omega)]
theorem zk_setM {ad : Nat → Nat} {cs : ClassId × ClassId × ClassId} {σ : zk_Sh} {M : zk_M} {L : zk_L} {o : Nat} {f : Nat → Int32} : (zk_ws ad cs σ M L).set o (ad o, zk_ent ad cs σ (va_up M o f) L o) = zk_ws ad cs σ (va_up M o f) L := zk_setW (fun _ h => (zk_up_ne h).symm) (fun _ _ => rfl)
theorem zk_setL {ad : Nat → Nat} {cs : ClassId × ClassId × ClassId} {σ : zk_Sh} {M : zk_M} {L : zk_L} {o : Nat} {f : Nat → Int64} : (zk_ws ad cs σ M L).set o (ad o, zk_ent ad cs σ M (va_up L o f) o) = zk_ws ad cs σ M (va_up L o f) := zk_setW (fun _ _ => rfl) (fun _ h => (zk_up_ne h).symm)
/-! locals -/
def zk_g : List (Option Value) → Nat → Option Value
  | [], _ => none
  | a :: _, 0 => a
  | _ :: t, i + 1 => zk_g t i
theorem zk_g_get : ∀ {ls : List (Option Value)} {i : Nat} {v : Value}, zk_g ls i = some v → ls[i]? = some (some v)
  | [], i, v, h => by simp [zk_g] at h
  | a :: t, 0, v, h => by simp only [zk_g] at h; simp [h]
  | a :: t, i + 1, v, h => by simp only [zk_g] at h; simpa using zk_g_get h
def zk_nl (b : Option Value) : Bool := match b with
  | some v => v.category == 1
  | none => true
/-- ls' is ls with v (of one slot) at i -/
def zk_S (ls : List (Option Value)) (i : Nat) (ls' : List (Option Value)) (v : Value) : Prop := i < ls.length ∧ ls' = ls.set i (some v) ∧ ∀ (j : Nat) (w : Value), j + 1 = i → ls[j]? = some (some w) → w.category = 1
/-- ls' is ls with v (of two slots) at i -/
def zk_S2 (ls : List (Option Value)) (i : Nat) (ls' : List (Option Value)) (v : Value) : Prop := i + 1 < ls.length ∧ ls' = (ls.set i (some v)).set (i + 1) none ∧ ∀ (j : Nat) (w : Value), j + 1 = i → ls[j]? = some (some w) → w.category = 1
def zk_ll (ad : Nat → Nat) (ls : List (Option Value)) : List (Nat × Value) := ls.zipIdx.filterMap (fun q => q.1.map (fun v => (q.2, zk_mv ad v)))
theorem zk_ll_mem {ad : Nat → Nat} {ls : List (Option Value)} {i : Nat} {u : Value} : (i, u) ∈ zk_ll ad ls ↔ ∃ v, ls[i]? = some (some v) ∧ u = zk_mv ad v := by
  simp only [zk_ll, List.mem_filterMap]
  constructor
  · rintro ⟨⟨a, j⟩, h1, h2⟩
    rw [List.mem_zipIdx_iff_getElem?] at h1
    cases a with
    | none => simp at h2
    | some v =>
      simp only [Option.map_some, Option.some.injEq, Prod.mk.injEq] at h2
      obtain ⟨rfl, rfl⟩ := h2
      exact ⟨v, by simpa using h1, rfl⟩
  · rintro ⟨v, h1, rfl⟩
    exact ⟨(some v, i), by rw [List.mem_zipIdx_iff_getElem?]; simpa using h1, rfl⟩
theorem zk_lv_has {lsA : Array Slot} {nL : Nat} {ad : Nat → Nat} {ls : List (Option Value)} (h : zk_lv lsA nL ad ls) : lv_has lsA nL (zk_ll ad ls) := by
  refine ⟨h.1, h.2.1, fun q hq => ?_⟩
  obtain ⟨i, u⟩ := q
  obtain ⟨v, h1, rfl⟩ := zk_ll_mem.mp hq
  exact h.2.2.2 i v h1
theorem zk_lv_at {lsA : Array Slot} {nL : Nat} {ad : Nat → Nat} {ls : List (Option Value)} (h : zk_lv lsA nL ad ls) {i : Nat} {v : Value} (hg : zk_g ls i = some v) : lsA[i]? = some (.val (zk_mv ad v)) := h.2.2.2 i v (zk_g_get hg)
theorem zk_lv_set {lsA lsB : Array Slot} {nL i : Nat} {ad : Nat → Nat} {ls ls' : List (Option Value)} {v : Value} (h : zk_lv lsA nL ad ls) (hs : zk_S ls i ls' v)
    (h' : lv_has lsB nL ((i, zk_mv ad v) :: (zk_ll ad ls).filter (fun q => !(q.1 == i) && !(q.1 + 1 == i && q.2.category == 2)))) : zk_lv lsB nL ad ls' := by
  obtain ⟨hi, rfl, hp⟩ := hs
  refine ⟨h'.1, h'.2.1, by simp [h.2.2.1], fun j w hw => ?_⟩
  by_cases hj : j = i
  · subst hj
    rw [List.getElem?_set_self hi] at hw
    cases hw
    exact h'.2.2 (j, _) List.mem_cons_self
  · rw [List.getElem?_set_ne (fun e => hj e.symm)] at hw
    refine h'.2.2 (j, zk_mv ad w) (List.mem_cons_of_mem _ (List.mem_filter.mpr ⟨zk_ll_mem.mpr ⟨w, hw, rfl⟩, ?_⟩))
    have hc : j + 1 = i → w.category = 1 := fun e => hp j w e hw
    by_cases e : j + 1 = i
    · simp [hj, zk_mv_cat, hc e]
    · simp [hj, e]
theorem zk_lv_set2 {lsA lsB : Array Slot} {nL i : Nat} {ad : Nat → Nat} {ls ls' : List (Option Value)} {v : Value} (h : zk_lv lsA nL ad ls) (hs : zk_S2 ls i ls' v)
    (h' : lv_has lsB nL ((i, zk_mv ad v) :: (zk_ll ad ls).filter (fun q => !(q.1 == i) && (!(q.1 == i + 1) && !(q.1 + 1 == i && q.2.category == 2))))) : zk_lv lsB nL ad ls' := by
  obtain ⟨hi, rfl, hp⟩ := hs
  refine ⟨h'.1, h'.2.1, by simp [h.2.2.1], fun j w hw => ?_⟩
  by_cases hj1 : j = i + 1
  · subst hj1
    rw [List.getElem?_set_self (by simpa using hi)] at hw
    cases hw
  · rw [List.getElem?_set_ne (fun e => hj1 e.symm)] at hw
    by_cases hj : j = i
    · subst hj
      rw [List.getElem?_set_self (by omega)] at hw
      cases hw
      exact h'.2.2 (j, _) List.mem_cons_self
    · rw [List.getElem?_set_ne (fun e => hj e.symm)] at hw
      refine h'.2.2 (j, zk_mv ad w) (List.mem_cons_of_mem _ (List.mem_filter.mpr ⟨zk_ll_mem.mpr ⟨w, hw, rfl⟩, ?_⟩))
      have hc : j + 1 = i → w.category = 1 := fun e => hp j w e hw
      by_cases e : j + 1 = i
      · simp [hj, hj1, zk_mv_cat, hc e]
      · simp [hj, hj1, e]
/-- fewer locals known -/
def zk_le : List (Option Value) → List (Option Value) → Prop
  | [], [] => True
  | a :: s, b :: t => (b = none ∨ a = b) ∧ zk_le s t
  | _, _ => False
theorem zk_le_get : ∀ {s t : List (Option Value)}, zk_le s t → s.length = t.length ∧ ∀ (i : Nat) (v : Value), t[i]? = some (some v) → s[i]? = some (some v)
  | [], [], _ => ⟨rfl, fun i v h => h⟩
  | a :: s, b :: t, h => by
    obtain ⟨h1, h2⟩ := zk_le_get h.2
    refine ⟨by simp [h1], fun i v hv => ?_⟩
    cases i with
    | zero =>
      rcases h.1 with e | e
      · subst e; simp at hv
      · subst e; exact hv
    | succ i => simpa using h2 i v (by simpa using hv)
  | [], _ :: _, h => h.elim
  | _ :: _, [], h => h.elim
theorem zk_forget {l : Launch} {σ : zk_Sh} {d : Nat} {μ : zk_I} {pc : Nat} {ls ls' : List (Option Value)} {st : List Value} {M : zk_M} {L : zk_L} {Q : Option Value → zk_M → zk_L → Prop} (h : zk_le ls ls') (k : zk_R l σ d μ pc ls' st M L Q) : zk_R l σ d μ pc ls st M L Q := by
  intro p e s m args below meth c ad cs D H locs lsA X hH hS hl
  obtain ⟨h1, h2⟩ := zk_le_get h
  exact k p e s m args below meth c ad cs D H locs lsA X hH hS ⟨hl.1, hl.2.1, by rw [← h1]; exact hl.2.2.1, fun i v hv => hl.2.2.2 i v (h2 i v hv)⟩
theorem zk_post {l : Launch} {σ : zk_Sh} {d : Nat} {μ : zk_I} {pc : Nat} {ls : List (Option Value)} {st : List Value} {M M' : zk_M} {L L' : zk_L} {Q : Option Value → zk_M → zk_L → Prop} (hM : M = M') (hL : L = L') (k : zk_R l σ d μ pc ls st M' L' Q) : zk_R l σ d μ pc ls st M L Q := by subst hM; subst hL; exact k
theorem zk_S_0 {a0 : Option Value} {t : List (Option Value)} {v : Value} : zk_S (a0 :: t) 0 (some v :: t) v := by
  exact ⟨by simp, by simp, fun j w e => by omega⟩
theorem zk_S_1 {a0 a1 : Option Value} {t : List (Option Value)} {v : Value} (h : zk_nl a0 = true := by rfl) : zk_S (a0 :: a1 :: t) 1 (a0 :: some v :: t) v := by
  refine ⟨by simp, by simp, fun j w e hw => ?_⟩
  obtain rfl : j = 0 := by omega
  simp at hw
  subst hw
  simpa [zk_nl] using h
theorem zk_S_2 {a0 a1 a2 : Option Value} {t : List (Option Value)} {v : Value} (h : zk_nl a1 = true := by rfl) : zk_S (a0 :: a1 :: a2 :: t) 2 (a0 :: a1 :: some v :: t) v := by
  refine ⟨by simp, by simp, fun j w e hw => ?_⟩
  obtain rfl : j = 1 := by omega
  simp at hw
  subst hw
  simpa [zk_nl] using h
theorem zk_S_3 {a0 a1 a2 a3 : Option Value} {t : List (Option Value)} {v : Value} (h : zk_nl a2 = true := by rfl) : zk_S (a0 :: a1 :: a2 :: a3 :: t) 3 (a0 :: a1 :: a2 :: some v :: t) v := by
  refine ⟨by simp, by simp, fun j w e hw => ?_⟩
  obtain rfl : j = 2 := by omega
  simp at hw
  subst hw
  simpa [zk_nl] using h
theorem zk_S_4 {a0 a1 a2 a3 a4 : Option Value} {t : List (Option Value)} {v : Value} (h : zk_nl a3 = true := by rfl) : zk_S (a0 :: a1 :: a2 :: a3 :: a4 :: t) 4 (a0 :: a1 :: a2 :: a3 :: some v :: t) v := by
  refine ⟨by simp, by simp, fun j w e hw => ?_⟩
  obtain rfl : j = 3 := by omega
  simp at hw
  subst hw
  simpa [zk_nl] using h
theorem zk_S_5 {a0 a1 a2 a3 a4 a5 : Option Value} {t : List (Option Value)} {v : Value} (h : zk_nl a4 = true := by rfl) : zk_S (a0 :: a1 :: a2 :: a3 :: a4 :: a5 :: t) 5 (a0 :: a1 :: a2 :: a3 :: a4 :: some v :: t) v := by
  refine ⟨by simp, by simp, fun j w e hw => ?_⟩
  obtain rfl : j = 4 := by omega
  simp at hw
  subst hw
  simpa [zk_nl] using h
theorem zk_S_6 {a0 a1 a2 a3 a4 a5 a6 : Option Value} {t : List (Option Value)} {v : Value} (h : zk_nl a5 = true := by rfl) : zk_S (a0 :: a1 :: a2 :: a3 :: a4 :: a5 :: a6 :: t) 6 (a0 :: a1 :: a2 :: a3 :: a4 :: a5 :: some v :: t) v := by
  refine ⟨by simp, by simp, fun j w e hw => ?_⟩
  obtain rfl : j = 5 := by omega
  simp at hw
  subst hw
  simpa [zk_nl] using h
theorem zk_S_7 {a0 a1 a2 a3 a4 a5 a6 a7 : Option Value} {t : List (Option Value)} {v : Value} (h : zk_nl a6 = true := by rfl) : zk_S (a0 :: a1 :: a2 :: a3 :: a4 :: a5 :: a6 :: a7 :: t) 7 (a0 :: a1 :: a2 :: a3 :: a4 :: a5 :: a6 :: some v :: t) v := by
  refine ⟨by simp, by simp, fun j w e hw => ?_⟩
  obtain rfl : j = 6 := by omega
  simp at hw
  subst hw
  simpa [zk_nl] using h
theorem zk_S_8 {a0 a1 a2 a3 a4 a5 a6 a7 a8 : Option Value} {t : List (Option Value)} {v : Value} (h : zk_nl a7 = true := by rfl) : zk_S (a0 :: a1 :: a2 :: a3 :: a4 :: a5 :: a6 :: a7 :: a8 :: t) 8 (a0 :: a1 :: a2 :: a3 :: a4 :: a5 :: a6 :: a7 :: some v :: t) v := by
  refine ⟨by simp, by simp, fun j w e hw => ?_⟩
  obtain rfl : j = 7 := by omega
  simp at hw
  subst hw
  simpa [zk_nl] using h
theorem zk_S_9 {a0 a1 a2 a3 a4 a5 a6 a7 a8 a9 : Option Value} {t : List (Option Value)} {v : Value} (h : zk_nl a8 = true := by rfl) : zk_S (a0 :: a1 :: a2 :: a3 :: a4 :: a5 :: a6 :: a7 :: a8 :: a9 :: t) 9 (a0 :: a1 :: a2 :: a3 :: a4 :: a5 :: a6 :: a7 :: a8 :: some v :: t) v := by
  refine ⟨by simp, by simp, fun j w e hw => ?_⟩
  obtain rfl : j = 8 := by omega
  simp at hw
  subst hw
  simpa [zk_nl] using h
theorem zk_S_10 {a0 a1 a2 a3 a4 a5 a6 a7 a8 a9 a10 : Option Value} {t : List (Option Value)} {v : Value} (h : zk_nl a9 = true := by rfl) : zk_S (a0 :: a1 :: a2 :: a3 :: a4 :: a5 :: a6 :: a7 :: a8 :: a9 :: a10 :: t) 10 (a0 :: a1 :: a2 :: a3 :: a4 :: a5 :: a6 :: a7 :: a8 :: a9 :: some v :: t) v := by
  refine ⟨by simp, by simp, fun j w e hw => ?_⟩
  obtain rfl : j = 9 := by omega
  simp at hw
  subst hw
  simpa [zk_nl] using h
theorem zk_S_11 {a0 a1 a2 a3 a4 a5 a6 a7 a8 a9 a10 a11 : Option Value} {t : List (Option Value)} {v : Value} (h : zk_nl a10 = true := by rfl) : zk_S (a0 :: a1 :: a2 :: a3 :: a4 :: a5 :: a6 :: a7 :: a8 :: a9 :: a10 :: a11 :: t) 11 (a0 :: a1 :: a2 :: a3 :: a4 :: a5 :: a6 :: a7 :: a8 :: a9 :: a10 :: some v :: t) v := by
  refine ⟨by simp, by simp, fun j w e hw => ?_⟩
  obtain rfl : j = 10 := by omega
  simp at hw
  subst hw
  simpa [zk_nl] using h
theorem zk_S_12 {a0 a1 a2 a3 a4 a5 a6 a7 a8 a9 a10 a11 a12 : Option Value} {t : List (Option Value)} {v : Value} (h : zk_nl a11 = true := by rfl) : zk_S (a0 :: a1 :: a2 :: a3 :: a4 :: a5 :: a6 :: a7 :: a8 :: a9 :: a10 :: a11 :: a12 :: t) 12 (a0 :: a1 :: a2 :: a3 :: a4 :: a5 :: a6 :: a7 :: a8 :: a9 :: a10 :: a11 :: some v :: t) v := by
  refine ⟨by simp, by simp, fun j w e hw => ?_⟩
  obtain rfl : j = 11 := by omega
  simp at hw
  subst hw
  simpa [zk_nl] using h
theorem zk_S_13 {a0 a1 a2 a3 a4 a5 a6 a7 a8 a9 a10 a11 a12 a13 : Option Value} {t : List (Option Value)} {v : Value} (h : zk_nl a12 = true := by rfl) : zk_S (a0 :: a1 :: a2 :: a3 :: a4 :: a5 :: a6 :: a7 :: a8 :: a9 :: a10 :: a11 :: a12 :: a13 :: t) 13 (a0 :: a1 :: a2 :: a3 :: a4 :: a5 :: a6 :: a7 :: a8 :: a9 :: a10 :: a11 :: a12 :: some v :: t) v := by
  refine ⟨by simp, by simp, fun j w e hw => ?_⟩
  obtain rfl : j = 12 := by omega
  simp at hw
  subst hw
  simpa [zk_nl] using h
theorem zk_S2_0 {a0 a1 : Option Value} {t : List (Option Value)} {v : Value} : zk_S2 (a0 :: a1 :: t) 0 (some v :: none :: t) v := by
  exact ⟨by simp, by simp, fun j w e => by omega⟩
theorem zk_S2_1 {a0 a1 a2 : Option Value} {t : List (Option Value)} {v : Value} (h : zk_nl a0 = true := by rfl) : zk_S2 (a0 :: a1 :: a2 :: t) 1 (a0 :: some v :: none :: t) v := by
  refine ⟨by simp, by simp, fun j w e hw => ?_⟩
  obtain rfl : j = 0 := by omega
  simp at hw
  subst hw
  simpa [zk_nl] using h
theorem zk_S2_2 {a0 a1 a2 a3 : Option Value} {t : List (Option Value)} {v : Value} (h : zk_nl a1 = true := by rfl) : zk_S2 (a0 :: a1 :: a2 :: a3 :: t) 2 (a0 :: a1 :: some v :: none :: t) v := by
  refine ⟨by simp, by simp, fun j w e hw => ?_⟩
  obtain rfl : j = 1 := by omega
  simp at hw
  subst hw
  simpa [zk_nl] using h
theorem zk_S2_3 {a0 a1 a2 a3 a4 : Option Value} {t : List (Option Value)} {v : Value} (h : zk_nl a2 = true := by rfl) : zk_S2 (a0 :: a1 :: a2 :: a3 :: a4 :: t) 3 (a0 :: a1 :: a2 :: some v :: none :: t) v := by
  refine ⟨by simp, by simp, fun j w e hw => ?_⟩
  obtain rfl : j = 2 := by omega
  simp at hw
  subst hw
  simpa [zk_nl] using h
theorem zk_S2_4 {a0 a1 a2 a3 a4 a5 : Option Value} {t : List (Option Value)} {v : Value} (h : zk_nl a3 = true := by rfl) : zk_S2 (a0 :: a1 :: a2 :: a3 :: a4 :: a5 :: t) 4 (a0 :: a1 :: a2 :: a3 :: some v :: none :: t) v := by
  refine ⟨by simp, by simp, fun j w e hw => ?_⟩
  obtain rfl : j = 3 := by omega
  simp at hw
  subst hw
  simpa [zk_nl] using h
theorem zk_S2_5 {a0 a1 a2 a3 a4 a5 a6 : Option Value} {t : List (Option Value)} {v : Value} (h : zk_nl a4 = true := by rfl) : zk_S2 (a0 :: a1 :: a2 :: a3 :: a4 :: a5 :: a6 :: t) 5 (a0 :: a1 :: a2 :: a3 :: a4 :: some v :: none :: t) v := by
  refine ⟨by simp, by simp, fun j w e hw => ?_⟩
  obtain rfl : j = 4 := by omega
  simp at hw
  subst hw
  simpa [zk_nl] using h
theorem zk_S2_6 {a0 a1 a2 a3 a4 a5 a6 a7 : Option Value} {t : List (Option Value)} {v : Value} (h : zk_nl a5 = true := by rfl) : zk_S2 (a0 :: a1 :: a2 :: a3 :: a4 :: a5 :: a6 :: a7 :: t) 6 (a0 :: a1 :: a2 :: a3 :: a4 :: a5 :: some v :: none :: t) v := by
  refine ⟨by simp, by simp, fun j w e hw => ?_⟩
  obtain rfl : j = 5 := by omega
  simp at hw
  subst hw
  simpa [zk_nl] using h
theorem zk_S2_7 {a0 a1 a2 a3 a4 a5 a6 a7 a8 : Option Value} {t : List (Option Value)} {v : Value} (h : zk_nl a6 = true := by rfl) : zk_S2 (a0 :: a1 :: a2 :: a3 :: a4 :: a5 :: a6 :: a7 :: a8 :: t) 7 (a0 :: a1 :: a2 :: a3 :: a4 :: a5 :: a6 :: some v :: none :: t) v := by
  refine ⟨by simp, by simp, fun j w e hw => ?_⟩
  obtain rfl : j = 6 := by omega
  simp at hw
  subst hw
  simpa [zk_nl] using h
theorem zk_S2_8 {a0 a1 a2 a3 a4 a5 a6 a7 a8 a9 : Option Value} {t : List (Option Value)} {v : Value} (h : zk_nl a7 = true := by rfl) : zk_S2 (a0 :: a1 :: a2 :: a3 :: a4 :: a5 :: a6 :: a7 :: a8 :: a9 :: t) 8 (a0 :: a1 :: a2 :: a3 :: a4 :: a5 :: a6 :: a7 :: some v :: none :: t) v := by
  refine ⟨by simp, by simp, fun j w e hw => ?_⟩
  obtain rfl : j = 7 := by omega
  simp at hw
  subst hw
  simpa [zk_nl] using h
theorem zk_S2_9 {a0 a1 a2 a3 a4 a5 a6 a7 a8 a9 a10 : Option Value} {t : List (Option Value)} {v : Value} (h : zk_nl a8 = true := by rfl) : zk_S2 (a0 :: a1 :: a2 :: a3 :: a4 :: a5 :: a6 :: a7 :: a8 :: a9 :: a10 :: t) 9 (a0 :: a1 :: a2 :: a3 :: a4 :: a5 :: a6 :: a7 :: a8 :: some v :: none :: t) v := by
  refine ⟨by simp, by simp, fun j w e hw => ?_⟩
  obtain rfl : j = 8 := by omega
  simp at hw
  subst hw
  simpa [zk_nl] using h
theorem zk_S2_10 {a0 a1 a2 a3 a4 a5 a6 a7 a8 a9 a10 a11 : Option Value} {t : List (Option Value)} {v : Value} (h : zk_nl a9 = true := by rfl) : zk_S2 (a0 :: a1 :: a2 :: a3 :: a4 :: a5 :: a6 :: a7 :: a8 :: a9 :: a10 :: a11 :: t) 10 (a0 :: a1 :: a2 :: a3 :: a4 :: a5 :: a6 :: a7 :: a8 :: a9 :: some v :: none :: t) v := by
  refine ⟨by simp, by simp, fun j w e hw => ?_⟩
  obtain rfl : j = 9 := by omega
  simp at hw
  subst hw
  simpa [zk_nl] using h
theorem zk_S2_11 {a0 a1 a2 a3 a4 a5 a6 a7 a8 a9 a10 a11 a12 : Option Value} {t : List (Option Value)} {v : Value} (h : zk_nl a10 = true := by rfl) : zk_S2 (a0 :: a1 :: a2 :: a3 :: a4 :: a5 :: a6 :: a7 :: a8 :: a9 :: a10 :: a11 :: a12 :: t) 11 (a0 :: a1 :: a2 :: a3 :: a4 :: a5 :: a6 :: a7 :: a8 :: a9 :: a10 :: some v :: none :: t) v := by
  refine ⟨by simp, by simp, fun j w e hw => ?_⟩
  obtain rfl : j = 10 := by omega
  simp at hw
  subst hw
  simpa [zk_nl] using h
theorem zk_S2_12 {a0 a1 a2 a3 a4 a5 a6 a7 a8 a9 a10 a11 a12 a13 : Option Value} {t : List (Option Value)} {v : Value} (h : zk_nl a11 = true := by rfl) : zk_S2 (a0 :: a1 :: a2 :: a3 :: a4 :: a5 :: a6 :: a7 :: a8 :: a9 :: a10 :: a11 :: a12 :: a13 :: t) 12 (a0 :: a1 :: a2 :: a3 :: a4 :: a5 :: a6 :: a7 :: a8 :: a9 :: a10 :: a11 :: some v :: none :: t) v := by
  refine ⟨by simp, by simp, fun j w e hw => ?_⟩
  obtain rfl : j = 11 := by omega
  simp at hw
  subst hw
  simpa [zk_nl] using h
theorem zk_S2_13 {a0 a1 a2 a3 a4 a5 a6 a7 a8 a9 a10 a11 a12 a13 a14 : Option Value} {t : List (Option Value)} {v : Value} (h : zk_nl a12 = true := by rfl) : zk_S2 (a0 :: a1 :: a2 :: a3 :: a4 :: a5 :: a6 :: a7 :: a8 :: a9 :: a10 :: a11 :: a12 :: a13 :: a14 :: t) 13 (a0 :: a1 :: a2 :: a3 :: a4 :: a5 :: a6 :: a7 :: a8 :: a9 :: a10 :: a11 :: a12 :: some v :: none :: t) v := by
  refine ⟨by simp, by simp, fun j w e hw => ?_⟩
  obtain rfl : j = 12 := by omega
  simp at hw
  subst hw
  simpa [zk_nl] using h
end
section
section ZKR
variable {l : Launch} {σ : zk_Sh} {d : Nat} {μ : zk_I} {pc : Nat} {ls ls' : List (Option Value)} {rest : List Value} {M : zk_M} {L : zk_L} {Q : Option Value → zk_M → zk_L → Prop}
theorem zk_iadd {x y : Int32} (hd : decode μ.2.1 pc = .ok (.iadd, 1)) (kk : zk_R l σ d μ (pc + 1) ls (.int (x + y) :: rest) M L Q) : zk_R l σ d μ (pc) ls (.int y :: .int x :: rest) M L Q := by
  intro p e s m args below meth c ad cs D H locs lsA X hH hS hl
  exact lv_iadd X.1 X.2.1 hd (kk p e s m args below meth c ad cs D H locs lsA X hH hS hl)
theorem zk_isub {x y : Int32} (hd : decode μ.2.1 pc = .ok (.isub, 1)) (kk : zk_R l σ d μ (pc + 1) ls (.int (x - y) :: rest) M L Q) : zk_R l σ d μ (pc) ls (.int y :: .int x :: rest) M L Q := by
  intro p e s m args below meth c ad cs D H locs lsA X hH hS hl
  exact lv_isub X.1 X.2.1 hd (kk p e s m args below meth c ad cs D H locs lsA X hH hS hl)
theorem zk_imul {x y : Int32} (hd : decode μ.2.1 pc = .ok (.imul, 1)) (kk : zk_R l σ d μ (pc + 1) ls (.int (x * y) :: rest) M L Q) : zk_R l σ d μ (pc) ls (.int y :: .int x :: rest) M L Q := by
  intro p e s m args below meth c ad cs D H locs lsA X hH hS hl
  exact lv_imul X.1 X.2.1 hd (kk p e s m args below meth c ad cs D H locs lsA X hH hS hl)
theorem zk_iand {x y : Int32} (hd : decode μ.2.1 pc = .ok (.iand, 1)) (kk : zk_R l σ d μ (pc + 1) ls (.int (x &&& y) :: rest) M L Q) : zk_R l σ d μ (pc) ls (.int y :: .int x :: rest) M L Q := by
  intro p e s m args below meth c ad cs D H locs lsA X hH hS hl
  exact lv_iand X.1 X.2.1 hd (kk p e s m args below meth c ad cs D H locs lsA X hH hS hl)
theorem zk_ior {x y : Int32} (hd : decode μ.2.1 pc = .ok (.ior, 1)) (kk : zk_R l σ d μ (pc + 1) ls (.int (x ||| y) :: rest) M L Q) : zk_R l σ d μ (pc) ls (.int y :: .int x :: rest) M L Q := by
  intro p e s m args below meth c ad cs D H locs lsA X hH hS hl
  exact lv_ior X.1 X.2.1 hd (kk p e s m args below meth c ad cs D H locs lsA X hH hS hl)
theorem zk_ixor {x y : Int32} (hd : decode μ.2.1 pc = .ok (.ixor, 1)) (kk : zk_R l σ d μ (pc + 1) ls (.int (x ^^^ y) :: rest) M L Q) : zk_R l σ d μ (pc) ls (.int y :: .int x :: rest) M L Q := by
  intro p e s m args below meth c ad cs D H locs lsA X hH hS hl
  exact lv_ixor X.1 X.2.1 hd (kk p e s m args below meth c ad cs D H locs lsA X hH hS hl)
theorem zk_ladd {x y : Int64} (hd : decode μ.2.1 pc = .ok (.ladd, 1)) (kk : zk_R l σ d μ (pc + 1) ls (.long (x + y) :: rest) M L Q) : zk_R l σ d μ (pc) ls (.long y :: .long x :: rest) M L Q := by
  intro p e s m args below meth c ad cs D H locs lsA X hH hS hl
  exact lv_ladd X.1 X.2.1 hd (kk p e s m args below meth c ad cs D H locs lsA X hH hS hl)
theorem zk_lsub {x y : Int64} (hd : decode μ.2.1 pc = .ok (.lsub, 1)) (kk : zk_R l σ d μ (pc + 1) ls (.long (x - y) :: rest) M L Q) : zk_R l σ d μ (pc) ls (.long y :: .long x :: rest) M L Q := by
  intro p e s m args below meth c ad cs D H locs lsA X hH hS hl
  exact lv_lsub X.1 X.2.1 hd (kk p e s m args below meth c ad cs D H locs lsA X hH hS hl)
theorem zk_lmul {x y : Int64} (hd : decode μ.2.1 pc = .ok (.lmul, 1)) (kk : zk_R l σ d μ (pc + 1) ls (.long (x * y) :: rest) M L Q) : zk_R l σ d μ (pc) ls (.long y :: .long x :: rest) M L Q := by
  intro p e s m args below meth c ad cs D H locs lsA X hH hS hl
  exact lv_lmul X.1 X.2.1 hd (kk p e s m args below meth c ad cs D H locs lsA X hH hS hl)
theorem zk_land {x y : Int64} (hd : decode μ.2.1 pc = .ok (.land, 1)) (kk : zk_R l σ d μ (pc + 1) ls (.long (x &&& y) :: rest) M L Q) : zk_R l σ d μ (pc) ls (.long y :: .long x :: rest) M L Q := by
  intro p e s m args below meth c ad cs D H locs lsA X hH hS hl
  exact lv_land X.1 X.2.1 hd (kk p e s m args below meth c ad cs D H locs lsA X hH hS hl)
theorem zk_lor {x y : Int64} (hd : decode μ.2.1 pc = .ok (.lor, 1)) (kk : zk_R l σ d μ (pc + 1) ls (.long (x ||| y) :: rest) M L Q) : zk_R l σ d μ (pc) ls (.long y :: .long x :: rest) M L Q := by
  intro p e s m args below meth c ad cs D H locs lsA X hH hS hl
  exact lv_lor X.1 X.2.1 hd (kk p e s m args below meth c ad cs D H locs lsA X hH hS hl)
theorem zk_idiv {x y : Int32} (hd : decode μ.2.1 pc = .ok (.idiv, 1)) (hne : ¬ y = 0) (kk : zk_R l σ d μ (pc + 1) ls (.int (x / y) :: rest) M L Q) : zk_R l σ d μ (pc) ls (.int y :: .int x :: rest) M L Q := by
  intro p e s m args below meth c ad cs D H locs lsA X hH hS hl
  exact lv_idiv X.1 X.2.1 hd hne (kk p e s m args below meth c ad cs D H locs lsA X hH hS hl)
theorem zk_irem {x y : Int32} (hd : decode μ.2.1 pc = .ok (.irem, 1)) (hne : ¬ y = 0) (kk : zk_R l σ d μ (pc + 1) ls (.int (x - x / y * y) :: rest) M L Q) : zk_R l σ d μ (pc) ls (.int y :: .int x :: rest) M L Q := by
  intro p e s m args below meth c ad cs D H locs lsA X hH hS hl
  exact lv_irem X.1 X.2.1 hd hne (kk p e s m args below meth c ad cs D H locs lsA X hH hS hl)
theorem zk_ldiv {x y : Int64} (hd : decode μ.2.1 pc = .ok (.ldiv, 1)) (hne : ¬ y = 0) (kk : zk_R l σ d μ (pc + 1) ls (.long (x / y) :: rest) M L Q) : zk_R l σ d μ (pc) ls (.long y :: .long x :: rest) M L Q := by
  intro p e s m args below meth c ad cs D H locs lsA X hH hS hl
  exact lv_ldiv X.1 X.2.1 hd hne (kk p e s m args below meth c ad cs D H locs lsA X hH hS hl)
theorem zk_lrem {x y : Int64} (hd : decode μ.2.1 pc = .ok (.lrem, 1)) (hne : ¬ y = 0) (kk : zk_R l σ d μ (pc + 1) ls (.long (x - x / y * y) :: rest) M L Q) : zk_R l σ d μ (pc) ls (.long y :: .long x :: rest) M L Q := by
  intro p e s m args below meth c ad cs D H locs lsA X hH hS hl
  exact lv_lrem X.1 X.2.1 hd hne (kk p e s m args below meth c ad cs D H locs lsA X hH hS hl)
theorem zk_ineg {x : Int32} (hd : decode μ.2.1 pc = .ok (.ineg, 1)) (kk : zk_R l σ d μ (pc + 1) ls (.int (-x) :: rest) M L Q) : zk_R l σ d μ (pc) ls (.int x :: rest) M L Q := by
  intro p e s m args below meth c ad cs D H locs lsA X hH hS hl
  exact lv_ineg X.1 X.2.1 hd (kk p e s m args below meth c ad cs D H locs lsA X hH hS hl)
theorem zk_ishl {x y : Int32} (hd : decode μ.2.1 pc = .ok (.ishl, 1)) (kk : zk_R l σ d μ (pc + 1) ls (.int (x <<< (y &&& 31)) :: rest) M L Q) : zk_R l σ d μ (pc) ls (.int y :: .int x :: rest) M L Q := by
  intro p e s m args below meth c ad cs D H locs lsA X hH hS hl
  exact lv_ishl X.1 X.2.1 hd (kk p e s m args below meth c ad cs D H locs lsA X hH hS hl)
theorem zk_ishr {x y : Int32} (hd : decode μ.2.1 pc = .ok (.ishr, 1)) (kk : zk_R l σ d μ (pc + 1) ls (.int (x >>> (y &&& 31)) :: rest) M L Q) : zk_R l σ d μ (pc) ls (.int y :: .int x :: rest) M L Q := by
  intro p e s m args below meth c ad cs D H locs lsA X hH hS hl
  exact lv_ishr X.1 X.2.1 hd (kk p e s m args below meth c ad cs D H locs lsA X hH hS hl)
theorem zk_iushr {x y : Int32} (hd : decode μ.2.1 pc = .ok (.iushr, 1)) (kk : zk_R l σ d μ (pc + 1) ls (.int (x.toUInt32 >>> (y.toUInt32 &&& Int32.toUInt32 31)).toInt32 :: rest) M L Q) : zk_R l σ d μ (pc) ls (.int y :: .int x :: rest) M L Q := by
  intro p e s m args below meth c ad cs D H locs lsA X hH hS hl
  exact lv_iushr X.1 X.2.1 hd rfl (kk p e s m args below meth c ad cs D H locs lsA X hH hS hl)
theorem zk_lshl {x : Int64} {y : Int32} (hd : decode μ.2.1 pc = .ok (.lshl, 1)) (kk : zk_R l σ d μ (pc + 1) ls (.long (x <<< (y.toInt64 &&& 63)) :: rest) M L Q) : zk_R l σ d μ (pc) ls (.int y :: .long x :: rest) M L Q := by
  intro p e s m args below meth c ad cs D H locs lsA X hH hS hl
  exact lv_lshl X.1 X.2.1 hd rfl (kk p e s m args below meth c ad cs D H locs lsA X hH hS hl)
theorem zk_lshr {x : Int64} {y : Int32} (hd : decode μ.2.1 pc = .ok (.lshr, 1)) (kk : zk_R l σ d μ (pc + 1) ls (.long (x >>> (y.toInt64 &&& 63)) :: rest) M L Q) : zk_R l σ d μ (pc) ls (.int y :: .long x :: rest) M L Q := by
  intro p e s m args below meth c ad cs D H locs lsA X hH hS hl
  exact lv_lshr X.1 X.2.1 hd rfl (kk p e s m args below meth c ad cs D H locs lsA X hH hS hl)
theorem zk_i2l {x : Int32} (hd : decode μ.2.1 pc = .ok (.i2l, 1)) (kk : zk_R l σ d μ (pc + 1) ls (.long x.toInt64 :: rest) M L Q) : zk_R l σ d μ (pc) ls (.int x :: rest) M L Q := by
  intro p e s m args below meth c ad cs D H locs lsA X hH hS hl
  exact lv_i2l X.1 X.2.1 hd rfl (kk p e s m args below meth c ad cs D H locs lsA X hH hS hl)
theorem zk_lcmp {x y : Int64} (hd : decode μ.2.1 pc = .ok (.lcmp, 1)) (kk : zk_R l σ d μ (pc + 1) ls (.int (lg_cmp x y) :: rest) M L Q) : zk_R l σ d μ (pc) ls (.long y :: .long x :: rest) M L Q := by
  intro p e s m args below meth c ad cs D H locs lsA X hH hS hl
  exact W.lcmp X.1 X.2.1 hd (kk p e s m args below meth c ad cs D H locs lsA X hH hS hl)
theorem zk_iconst {n : Int} {v : Int32} (hd : decode μ.2.1 pc = .ok (.iconst n, 1)) (hv : Int32.ofInt n = v) (kk : zk_R l σ d μ (pc + 1) ls (.int v :: rest) M L Q) : zk_R l σ d μ (pc) ls (rest) M L Q := by
  intro p e s m args below meth c ad cs D H locs lsA X hH hS hl
  exact lv_iconst X.1 X.2.1 hd hv (kk p e s m args below meth c ad cs D H locs lsA X hH hS hl)
theorem zk_bipush {n : Int} {v : Int32} (hd : decode μ.2.1 pc = .ok (.bipush n, 2)) (hv : (Int8.ofInt n).toInt32 = v) (kk : zk_R l σ d μ (pc + 2) ls (.int v :: rest) M L Q) : zk_R l σ d μ (pc) ls (rest) M L Q := by
  intro p e s m args below meth c ad cs D H locs lsA X hH hS hl
  exact lv_bipush X.1 X.2.1 hd hv (kk p e s m args below meth c ad cs D H locs lsA X hH hS hl)
theorem zk_sipush {n : Int} {v : Int32} (hd : decode μ.2.1 pc = .ok (.sipush n, 3)) (hv : (Int16.ofInt n).toInt32 = v) (kk : zk_R l σ d μ (pc + 3) ls (.int v :: rest) M L Q) : zk_R l σ d μ (pc) ls (rest) M L Q := by
  intro p e s m args below meth c ad cs D H locs lsA X hH hS hl
  exact lv_sipush X.1 X.2.1 hd hv (kk p e s m args below meth c ad cs D H locs lsA X hH hS hl)
theorem zk_lconst {n : Fin 2} {v : Int64} (hd : decode μ.2.1 pc = .ok (.lconst n, 1)) (hv : Int64.ofNat (n : Nat) = v) (kk : zk_R l σ d μ (pc + 1) ls (.long v :: rest) M L Q) : zk_R l σ d μ (pc) ls (rest) M L Q := by
  intro p e s m args below meth c ad cs D H locs lsA X hH hS hl
  exact lv_lconst X.1 X.2.1 hd hv (kk p e s m args below meth c ad cs D H locs lsA X hH hS hl)
theorem zk_ldc {idx : Nat} {v : Int32} (hd : decode μ.2.1 pc = .ok (.ldc idx, 2)) (hw : Cond.constant μ.2.2.2.2 idx v ∈ zk_tb) (kk : zk_R l σ d μ (pc + 2) ls (.int v :: rest) M L Q) : zk_R l σ d μ (pc) ls (rest) M L Q := by
  intro p e s m args below meth c ad cs D H locs lsA X hH hS hl
  exact lv_ldc X.1 X.2.1 X.2.2.2.2.1 (X.2.2.2.2.2.1 _ hw) hd (kk p e s m args below meth c ad cs D H locs lsA X hH hS hl)
theorem zk_ldcw {idx : Nat} {v : Int32} (hd : decode μ.2.1 pc = .ok (.ldc_w idx, 3)) (hw : Cond.constant μ.2.2.2.2 idx v ∈ zk_tb) (kk : zk_R l σ d μ (pc + 3) ls (.int v :: rest) M L Q) : zk_R l σ d μ (pc) ls (rest) M L Q := by
  intro p e s m args below meth c ad cs D H locs lsA X hH hS hl
  exact lv_ldcw X.1 X.2.1 X.2.2.2.2.1 (X.2.2.2.2.2.1 _ hw) hd (kk p e s m args below meth c ad cs D H locs lsA X hH hS hl)
theorem zk_ldc2 {idx : Nat} {v : Int64} (hd : decode μ.2.1 pc = .ok (.ldc2_w idx, 3)) (hw : Cond.constantLong μ.2.2.2.2 idx v ∈ zk_tb) (kk : zk_R l σ d μ (pc + 3) ls (.long v :: rest) M L Q) : zk_R l σ d μ (pc) ls (rest) M L Q := by
  intro p e s m args below meth c ad cs D H locs lsA X hH hS hl
  exact lv_ldc2 X.1 X.2.1 X.2.2.2.2.1 (X.2.2.2.2.2.1 _ hw) hd (kk p e s m args below meth c ad cs D H locs lsA X hH hS hl)
theorem zk_iload_n {k : Fin 4} {x : Int32} (hd : decode μ.2.1 pc = .ok (.iload_n k, 1)) (hg : zk_g ls (k : Nat) = some (.int x)) (kk : zk_R l σ d μ (pc + 1) ls (.int x :: rest) M L Q) : zk_R l σ d μ (pc) ls (rest) M L Q := by
  intro p e s m args below meth c ad cs D H locs lsA X hH hS hl
  exact lv_iload_n X.1 X.2.1 hd rfl (zk_lv_at hl hg) (kk p e s m args below meth c ad cs D H locs lsA X hH hS hl)
theorem zk_iload {i : Nat} {x : Int32} (hd : decode μ.2.1 pc = .ok (.iload i, 2)) (hg : zk_g ls i = some (.int x)) (kk : zk_R l σ d μ (pc + 2) ls (.int x :: rest) M L Q) : zk_R l σ d μ (pc) ls (rest) M L Q := by
  intro p e s m args below meth c ad cs D H locs lsA X hH hS hl
  exact lv_iload X.1 X.2.1 hd (zk_lv_at hl hg) (kk p e s m args below meth c ad cs D H locs lsA X hH hS hl)
theorem zk_istore_n {k : Fin 4} {x : Int32} (hd : decode μ.2.1 pc = .ok (.istore_n k, 1)) (hs : zk_S ls (k : Nat) ls' (.int x)) (kk : zk_R l σ d μ (pc + 1) ls' (rest) M L Q) : zk_R l σ d μ (pc) ls (.int x :: rest) M L Q := by
  intro p e s m args below meth c ad cs D H locs lsA X hH hS hl
  exact lv_istore_n X.1 X.2.1 hd rfl (zk_lv_has hl) (by have := hs.1; rw [hl.2.2.1] at this; exact this) rfl (fun lsB hB => kk p e s m args below meth c ad cs D H locs lsB X hH hS (zk_lv_set hl hs hB))
theorem zk_istore {i : Nat} {x : Int32} (hd : decode μ.2.1 pc = .ok (.istore i, 2)) (hs : zk_S ls i ls' (.int x)) (kk : zk_R l σ d μ (pc + 2) ls' (rest) M L Q) : zk_R l σ d μ (pc) ls (.int x :: rest) M L Q := by
  intro p e s m args below meth c ad cs D H locs lsA X hH hS hl
  exact lv_istore X.1 X.2.1 hd (zk_lv_has hl) (by have := hs.1; rw [hl.2.2.1] at this; exact this) rfl (fun lsB hB => kk p e s m args below meth c ad cs D H locs lsB X hH hS (zk_lv_set hl hs hB))
theorem zk_aload_n {k : Fin 4} {x : Nat} (hd : decode μ.2.1 pc = .ok (.aload_n k, 1)) (hg : zk_g ls (k : Nat) = some (.ref x)) (kk : zk_R l σ d μ (pc + 1) ls (.ref x :: rest) M L Q) : zk_R l σ d μ (pc) ls (rest) M L Q := by
  intro p e s m args below meth c ad cs D H locs lsA X hH hS hl
  exact lv_aload_n X.1 X.2.1 hd rfl (zk_lv_at hl hg) (kk p e s m args below meth c ad cs D H locs lsA X hH hS hl)
theorem zk_aload {i : Nat} {x : Nat} (hd : decode μ.2.1 pc = .ok (.aload i, 2)) (hg : zk_g ls i = some (.ref x)) (kk : zk_R l σ d μ (pc + 2) ls (.ref x :: rest) M L Q) : zk_R l σ d μ (pc) ls (rest) M L Q := by
  intro p e s m args below meth c ad cs D H locs lsA X hH hS hl
  exact lv_aload X.1 X.2.1 hd (zk_lv_at hl hg) (kk p e s m args below meth c ad cs D H locs lsA X hH hS hl)
theorem zk_astore_n {k : Fin 4} {x : Nat} (hd : decode μ.2.1 pc = .ok (.astore_n k, 1)) (hs : zk_S ls (k : Nat) ls' (.ref x)) (kk : zk_R l σ d μ (pc + 1) ls' (rest) M L Q) : zk_R l σ d μ (pc) ls (.ref x :: rest) M L Q := by
  intro p e s m args below meth c ad cs D H locs lsA X hH hS hl
  exact lv_astore_n X.1 X.2.1 hd rfl (zk_lv_has hl) (by have := hs.1; rw [hl.2.2.1] at this; exact this) rfl (fun lsB hB => kk p e s m args below meth c ad cs D H locs lsB X hH hS (zk_lv_set hl hs hB))
theorem zk_astore {i : Nat} {x : Nat} (hd : decode μ.2.1 pc = .ok (.astore i, 2)) (hs : zk_S ls i ls' (.ref x)) (kk : zk_R l σ d μ (pc + 2) ls' (rest) M L Q) : zk_R l σ d μ (pc) ls (.ref x :: rest) M L Q := by
  intro p e s m args below meth c ad cs D H locs lsA X hH hS hl
  exact lv_astore X.1 X.2.1 hd (zk_lv_has hl) (by have := hs.1; rw [hl.2.2.1] at this; exact this) rfl (fun lsB hB => kk p e s m args below meth c ad cs D H locs lsB X hH hS (zk_lv_set hl hs hB))
theorem zk_lload_n {k : Fin 4} {x : Int64} (hd : decode μ.2.1 pc = .ok (.lload_n k, 1)) (hg : zk_g ls (k : Nat) = some (.long x)) (kk : zk_R l σ d μ (pc + 1) ls (.long x :: rest) M L Q) : zk_R l σ d μ (pc) ls (rest) M L Q := by
  intro p e s m args below meth c ad cs D H locs lsA X hH hS hl
  exact lv_lload_n X.1 X.2.1 hd rfl (zk_lv_at hl hg) (kk p e s m args below meth c ad cs D H locs lsA X hH hS hl)
theorem zk_lload {i : Nat} {x : Int64} (hd : decode μ.2.1 pc = .ok (.lload i, 2)) (hg : zk_g ls i = some (.long x)) (kk : zk_R l σ d μ (pc + 2) ls (.long x :: rest) M L Q) : zk_R l σ d μ (pc) ls (rest) M L Q := by
  intro p e s m args below meth c ad cs D H locs lsA X hH hS hl
  exact lv_lload X.1 X.2.1 hd (zk_lv_at hl hg) (kk p e s m args below meth c ad cs D H locs lsA X hH hS hl)
theorem zk_lstore_n {k : Fin 4} {x : Int64} (hd : decode μ.2.1 pc = .ok (.lstore_n k, 1)) (hs : zk_S2 ls (k : Nat) ls' (.long x)) (kk : zk_R l σ d μ (pc + 1) ls' (rest) M L Q) : zk_R l σ d μ (pc) ls (.long x :: rest) M L Q := by
  intro p e s m args below meth c ad cs D H locs lsA X hH hS hl
  exact lv_lstore_n X.1 X.2.1 hd rfl (zk_lv_has hl) (by have := hs.1; rw [hl.2.2.1] at this; exact this) rfl (fun lsB hB => kk p e s m args below meth c ad cs D H locs lsB X hH hS (zk_lv_set2 hl hs hB))
theorem zk_lstore {i : Nat} {x : Int64} (hd : decode μ.2.1 pc = .ok (.lstore i, 2)) (hs : zk_S2 ls i ls' (.long x)) (kk : zk_R l σ d μ (pc + 2) ls' (rest) M L Q) : zk_R l σ d μ (pc) ls (.long x :: rest) M L Q := by
  intro p e s m args below meth c ad cs D H locs lsA X hH hS hl
  exact lv_lstore X.1 X.2.1 hd (zk_lv_has hl) (by have := hs.1; rw [hl.2.2.1] at this; exact this) rfl (fun lsB hB => kk p e s m args below meth c ad cs D H locs lsB X hH hS (zk_lv_set2 hl hs hB))
theorem zk_iinc {i : Nat} {n : Int} {x nv : Int32} (hd : decode μ.2.1 pc = .ok (.iinc i n, 3)) (hn : Int32.ofInt n = nv) (hg : zk_g ls i = some (.int x)) (hs : zk_S ls i ls' (.int (x + nv))) (kk : zk_R l σ d μ (pc + 3) ls' (rest) M L Q) : zk_R l σ d μ (pc) ls (rest) M L Q := by
  intro p e s m args below meth c ad cs D H locs lsA X hH hS hl
  subst hn
  obtain ⟨k, hk⟩ := List.getElem?_of_mem (zk_ll_mem.mpr ⟨.int x, zk_g_get hg, rfl⟩ : (i, zk_mv ad (.int x)) ∈ zk_ll ad ls)
  exact lv_iinc X.1 X.2.1 hd (zk_lv_has hl) hk rfl (by have := hs.1; rw [hl.2.2.1] at this; exact this) rfl (fun lsB hB => kk p e s m args below meth c ad cs D H locs lsB X hH hS (zk_lv_set hl hs hB))
theorem zk_dup {v : Value} (hd : decode μ.2.1 pc = .ok (.dup, 1)) (hv : v.category = 1) (kk : zk_R l σ d μ (pc + 1) ls (v :: v :: rest) M L Q) : zk_R l σ d μ (pc) ls (v :: rest) M L Q := by
  intro p e s m args below meth c ad cs D H locs lsA X hH hS hl
  exact lv_dup X.1 X.2.1 hd ((zk_mv_cat ad v).trans hv) (kk p e s m args below meth c ad cs D H locs lsA X hH hS hl)
theorem zk_dup2 {v u : Value} (hd : decode μ.2.1 pc = .ok (.dup2, 1)) (hv : v.category = 1) (hu : u.category = 1) (kk : zk_R l σ d μ (pc + 1) ls (v :: u :: v :: u :: rest) M L Q) : zk_R l σ d μ (pc) ls (v :: u :: rest) M L Q := by
  intro p e s m args below meth c ad cs D H locs lsA X hH hS hl
  exact lv_dup2_11 X.1 X.2.1 hd ((zk_mv_cat ad v).trans hv) ((zk_mv_cat ad u).trans hu) (kk p e s m args below meth c ad cs D H locs lsA X hH hS hl)
theorem zk_pop {v : Value} (hd : decode μ.2.1 pc = .ok (.pop, 1)) (hv : v.category = 1) (kk : zk_R l σ d μ (pc + 1) ls (rest) M L Q) : zk_R l σ d μ (pc) ls (v :: rest) M L Q := by
  intro p e s m args below meth c ad cs D H locs lsA X hH hS hl
  exact lv_pop X.1 X.2.1 hd ((zk_mv_cat ad v).trans hv) (kk p e s m args below meth c ad cs D H locs lsA X hH hS hl)
theorem zk_if_eq {x : Int32} {off : Int} {tgt : Nat} (hd : decode μ.2.1 pc = .ok (.ifCond .eq off, 3)) (ht : (pc : Int) + off = (tgt : Int)) (kt : x = 0 → zk_R l σ d μ (tgt) ls (rest) M L Q) (kf : ¬ x = 0 → zk_R l σ d μ (pc + 3) ls (rest) M L Q) : zk_R l σ d μ (pc) ls (.int x :: rest) M L Q := by
  intro p e s m args below meth c ad cs D H locs lsA X hH hS hl
  exact lv_if_eq X.1 X.2.1 hd ht (fun q => kt q p e s m args below meth c ad cs D H locs lsA X hH hS hl) (fun q => kf q p e s m args below meth c ad cs D H locs lsA X hH hS hl)
theorem zk_icmp_eq {x y : Int32} {off : Int} {tgt : Nat} (hd : decode μ.2.1 pc = .ok (.if_icmp .eq off, 3)) (ht : (pc : Int) + off = (tgt : Int)) (kt : x = y → zk_R l σ d μ (tgt) ls (rest) M L Q) (kf : ¬ x = y → zk_R l σ d μ (pc + 3) ls (rest) M L Q) : zk_R l σ d μ (pc) ls (.int y :: .int x :: rest) M L Q := by
  intro p e s m args below meth c ad cs D H locs lsA X hH hS hl
  exact lv_icmp_eq X.1 X.2.1 hd ht (fun q => kt q p e s m args below meth c ad cs D H locs lsA X hH hS hl) (fun q => kf q p e s m args below meth c ad cs D H locs lsA X hH hS hl)
theorem zk_if_ne {x : Int32} {off : Int} {tgt : Nat} (hd : decode μ.2.1 pc = .ok (.ifCond .ne off, 3)) (ht : (pc : Int) + off = (tgt : Int)) (kt : ¬ x = 0 → zk_R l σ d μ (tgt) ls (rest) M L Q) (kf : x = 0 → zk_R l σ d μ (pc + 3) ls (rest) M L Q) : zk_R l σ d μ (pc) ls (.int x :: rest) M L Q := by
  intro p e s m args below meth c ad cs D H locs lsA X hH hS hl
  exact lv_if_ne X.1 X.2.1 hd ht (fun q => kt q p e s m args below meth c ad cs D H locs lsA X hH hS hl) (fun q => kf q p e s m args below meth c ad cs D H locs lsA X hH hS hl)
theorem zk_icmp_ne {x y : Int32} {off : Int} {tgt : Nat} (hd : decode μ.2.1 pc = .ok (.if_icmp .ne off, 3)) (ht : (pc : Int) + off = (tgt : Int)) (kt : ¬ x = y → zk_R l σ d μ (tgt) ls (rest) M L Q) (kf : x = y → zk_R l σ d μ (pc + 3) ls (rest) M L Q) : zk_R l σ d μ (pc) ls (.int y :: .int x :: rest) M L Q := by
  intro p e s m args below meth c ad cs D H locs lsA X hH hS hl
  exact lv_icmp_ne X.1 X.2.1 hd ht (fun q => kt q p e s m args below meth c ad cs D H locs lsA X hH hS hl) (fun q => kf q p e s m args below meth c ad cs D H locs lsA X hH hS hl)
theorem zk_if_lt {x : Int32} {off : Int} {tgt : Nat} (hd : decode μ.2.1 pc = .ok (.ifCond .lt off, 3)) (ht : (pc : Int) + off = (tgt : Int)) (kt : x < 0 → zk_R l σ d μ (tgt) ls (rest) M L Q) (kf : ¬ x < 0 → zk_R l σ d μ (pc + 3) ls (rest) M L Q) : zk_R l σ d μ (pc) ls (.int x :: rest) M L Q := by
  intro p e s m args below meth c ad cs D H locs lsA X hH hS hl
  exact lv_if_lt X.1 X.2.1 hd ht (fun q => kt q p e s m args below meth c ad cs D H locs lsA X hH hS hl) (fun q => kf q p e s m args below meth c ad cs D H locs lsA X hH hS hl)
theorem zk_icmp_lt {x y : Int32} {off : Int} {tgt : Nat} (hd : decode μ.2.1 pc = .ok (.if_icmp .lt off, 3)) (ht : (pc : Int) + off = (tgt : Int)) (kt : x < y → zk_R l σ d μ (tgt) ls (rest) M L Q) (kf : ¬ x < y → zk_R l σ d μ (pc + 3) ls (rest) M L Q) : zk_R l σ d μ (pc) ls (.int y :: .int x :: rest) M L Q := by
  intro p e s m args below meth c ad cs D H locs lsA X hH hS hl
  exact lv_icmp_lt X.1 X.2.1 hd ht (fun q => kt q p e s m args below meth c ad cs D H locs lsA X hH hS hl) (fun q => kf q p e s m args below meth c ad cs D H locs lsA X hH hS hl)
theorem zk_if_ge {x : Int32} {off : Int} {tgt : Nat} (hd : decode μ.2.1 pc = .ok (.ifCond .ge off, 3)) (ht : (pc : Int) + off = (tgt : Int)) (kt : 0 ≤ x → zk_R l σ d μ (tgt) ls (rest) M L Q) (kf : ¬ 0 ≤ x → zk_R l σ d μ (pc + 3) ls (rest) M L Q) : zk_R l σ d μ (pc) ls (.int x :: rest) M L Q := by
  intro p e s m args below meth c ad cs D H locs lsA X hH hS hl
  exact lv_if_ge X.1 X.2.1 hd ht (fun q => kt q p e s m args below meth c ad cs D H locs lsA X hH hS hl) (fun q => kf q p e s m args below meth c ad cs D H locs lsA X hH hS hl)
theorem zk_icmp_ge {x y : Int32} {off : Int} {tgt : Nat} (hd : decode μ.2.1 pc = .ok (.if_icmp .ge off, 3)) (ht : (pc : Int) + off = (tgt : Int)) (kt : y ≤ x → zk_R l σ d μ (tgt) ls (rest) M L Q) (kf : ¬ y ≤ x → zk_R l σ d μ (pc + 3) ls (rest) M L Q) : zk_R l σ d μ (pc) ls (.int y :: .int x :: rest) M L Q := by
  intro p e s m args below meth c ad cs D H locs lsA X hH hS hl
  exact lv_icmp_ge X.1 X.2.1 hd ht (fun q => kt q p e s m args below meth c ad cs D H locs lsA X hH hS hl) (fun q => kf q p e s m args below meth c ad cs D H locs lsA X hH hS hl)
theorem zk_if_gt {x : Int32} {off : Int} {tgt : Nat} (hd : decode μ.2.1 pc = .ok (.ifCond .gt off, 3)) (ht : (pc : Int) + off = (tgt : Int)) (kt : 0 < x → zk_R l σ d μ (tgt) ls (rest) M L Q) (kf : ¬ 0 < x → zk_R l σ d μ (pc + 3) ls (rest) M L Q) : zk_R l σ d μ (pc) ls (.int x :: rest) M L Q := by
  intro p e s m args below meth c ad cs D H locs lsA X hH hS hl
  exact lv_if_gt X.1 X.2.1 hd ht (fun q => kt q p e s m args below meth c ad cs D H locs lsA X hH hS hl) (fun q => kf q p e s m args below meth c ad cs D H locs lsA X hH hS hl)
theorem zk_icmp_gt {x y : Int32} {off : Int} {tgt : Nat} (hd : decode μ.2.1 pc = .ok (.if_icmp .gt off, 3)) (ht : (pc : Int) + off = (tgt : Int)) (kt : y < x → zk_R l σ d μ (tgt) ls (rest) M L Q) (kf : ¬ y < x → zk_R l σ d μ (pc + 3) ls (rest) M L Q) : zk_R l σ d μ (pc) ls (.int y :: .int x :: rest) M L Q := by
  intro p e s m args below meth c ad cs D H locs lsA X hH hS hl
  exact lv_icmp_gt X.1 X.2.1 hd ht (fun q => kt q p e s m args below meth c ad cs D H locs lsA X hH hS hl) (fun q => kf q p e s m args below meth c ad cs D H locs lsA X hH hS hl)
theorem zk_if_le {x : Int32} {off : Int} {tgt : Nat} (hd : decode μ.2.1 pc = .ok (.ifCond .le off, 3)) (ht : (pc : Int) + off = (tgt : Int)) (kt : x ≤ 0 → zk_R l σ d μ (tgt) ls (rest) M L Q) (kf : ¬ x ≤ 0 → zk_R l σ d μ (pc + 3) ls (rest) M L Q) : zk_R l σ d μ (pc) ls (.int x :: rest) M L Q := by
  intro p e s m args below meth c ad cs D H locs lsA X hH hS hl
  exact lv_if_le X.1 X.2.1 hd ht (fun q => kt q p e s m args below meth c ad cs D H locs lsA X hH hS hl) (fun q => kf q p e s m args below meth c ad cs D H locs lsA X hH hS hl)
theorem zk_icmp_le {x y : Int32} {off : Int} {tgt : Nat} (hd : decode μ.2.1 pc = .ok (.if_icmp .le off, 3)) (ht : (pc : Int) + off = (tgt : Int)) (kt : x ≤ y → zk_R l σ d μ (tgt) ls (rest) M L Q) (kf : ¬ x ≤ y → zk_R l σ d μ (pc + 3) ls (rest) M L Q) : zk_R l σ d μ (pc) ls (.int y :: .int x :: rest) M L Q := by
  intro p e s m args below meth c ad cs D H locs lsA X hH hS hl
  exact lv_icmp_le X.1 X.2.1 hd ht (fun q => kt q p e s m args below meth c ad cs D H locs lsA X hH hS hl) (fun q => kf q p e s m args below meth c ad cs D H locs lsA X hH hS hl)
theorem zk_goto {off : Int} {tgt : Nat} (hd : decode μ.2.1 pc = .ok (.goto off, 3)) (ht : (pc : Int) + off = (tgt : Int)) (kk : zk_R l σ d μ (tgt) ls (rest) M L Q) : zk_R l σ d μ (pc) ls (rest) M L Q := by
  intro p e s m args below meth c ad cs D H locs lsA X hH hS hl
  exact lv_goto X.1 X.2.1 hd ht (kk p e s m args below meth c ad cs D H locs lsA X hH hS hl)
theorem zk_lookup {dflt : Int} {ps : Array (Int × Int)} {len : Nat} {x : Int32} {off : Int} {tgt : Nat} (hd : decode μ.2.1 pc = .ok (.lookupswitch dflt ps, len)) (hp : (ps.toList.zip (ps.toList.drop 1)).all (fun (a, next) => a.1 < next.1) = true) (ho : Op.lookupswitch.offset ps.toList dflt x.toInt = off) (ht : (pc : Int) + off = (tgt : Int)) (kk : zk_R l σ d μ (tgt) ls (rest) M L Q) : zk_R l σ d μ (pc) ls (.int x :: rest) M L Q := by
  intro p e s m args below meth c ad cs D H locs lsA X hH hS hl
  exact lv_lookup X.1 X.2.1 hd hp ho ht (kk p e s m args below meth c ad cs D H locs lsA X hH hS hl)
theorem zk_tabOut {dflt lo hi : Int} {offs : Array Int} {len : Nat} {x : Int32} {tgt : Nat} (hd : decode μ.2.1 pc = .ok (.tableswitch dflt lo hi offs, len)) (h : x.toInt < lo ∨ hi < x.toInt) (ht : (pc : Int) + dflt = (tgt : Int)) (kk : zk_R l σ d μ (tgt) ls (rest) M L Q) : zk_R l σ d μ (pc) ls (.int x :: rest) M L Q := by
  intro p e s m args below meth c ad cs D H locs lsA X hH hS hl
  exact lv_tableOut X.1 X.2.1 hd h ht (kk p e s m args below meth c ad cs D H locs lsA X hH hS hl)
theorem zk_tabIn {dflt lo hi : Int} {offs : Array Int} {len : Nat} {x : Int32} {off : Int} {tgt : Nat} (hd : decode μ.2.1 pc = .ok (.tableswitch dflt lo hi offs, len)) (h1 : ¬ x.toInt < lo) (h2 : ¬ hi < x.toInt) (ho : offs[(x.toInt - lo).toNat]? = some off) (ht : (pc : Int) + off = (tgt : Int)) (kk : zk_R l σ d μ (tgt) ls (rest) M L Q) : zk_R l σ d μ (pc) ls (.int x :: rest) M L Q := by
  intro p e s m args below meth c ad cs D H locs lsA X hH hS hl
  exact lv_tableIn X.1 X.2.1 hd h1 h2 ho ht (kk p e s m args below meth c ad cs D H locs lsA X hH hS hl)
/-- a field's link: own class, pool number, class, slot -/
def zk_FL (own : String) (idx c k : Nat) : Prop := ∃ (C : String) (T : u_T) (N : Nat), vwCl[c]? = some (C, T, N) ∧ k < N ∧ N = zk_nf c ∧ (∀ w ∈ u_ws C T N, w ∈ zk_tb) ∧ Cond.fieldLink own idx (T k).1 (T k).2.1 (T k).2.2.1 ∈ zk_tb
theorem zk_c6 {c : Nat} {q : vw_C} (h : vwCl[c]? = some q) : c < 6 := by
  have := (List.getElem?_eq_some_iff.mp h).1
  simpa [vwCl] using this
theorem zk_getI {o idx ci k : Nat} (hd : decode μ.2.1 pc = .ok (.getfield idx, 3)) (hf : zk_FL μ.2.2.2.2 idx ci k) (ho : o < σ.1) (hc : σ.2.1 o = ci) (hr : zk_isref ci k = false) (kk : zk_R l σ d μ (pc + 3) ls (.int (M o k) :: rest) M L Q) : zk_R l σ d μ (pc) ls (.ref o :: rest) M L Q := by
  intro p e s m args below meth c ad cs D H locs lsA X hH hS hl
  obtain ⟨C, T, N, h1, h2, h3, h4, h5⟩ := hf
  refine va_get (D := D) (ci := ci) (v := .int (M o k)) (C := C) (T := T) (N := N) X.1 X.2.1 X.2.2.2.2.2.1 h4 X.2.2.2.2.1 X.2.2.2.2.2.2.2.2 hH.1 o (by rw [zk_at ho, zk_ent_o hc (zk_c6 h1)]) h1 k h2 (X.2.2.2.2.2.1 _ h5) (fun _ h => h) ?_ hd (kk p e s m args below meth c ad cs D H locs lsA X hH hS hl)
  rw [List.getElem?_map, List.getElem?_range (by omega)]
  simp [zk_fv, hc, hr]
theorem zk_getR {o idx ci k : Nat} (hd : decode μ.2.1 pc = .ok (.getfield idx, 3)) (hf : zk_FL μ.2.2.2.2 idx ci k) (ho : o < σ.1) (hc : σ.2.1 o = ci) (hr : zk_isref ci k = true) (kk : zk_R l σ d μ (pc + 3) ls (.ref (σ.2.2.2 o k) :: rest) M L Q) : zk_R l σ d μ (pc) ls (.ref o :: rest) M L Q := by
  intro p e s m args below meth c ad cs D H locs lsA X hH hS hl
  obtain ⟨C, T, N, h1, h2, h3, h4, h5⟩ := hf
  refine va_get (D := D) (ci := ci) (v := .ref (ad (σ.2.2.2 o k))) (C := C) (T := T) (N := N) X.1 X.2.1 X.2.2.2.2.2.1 h4 X.2.2.2.2.1 X.2.2.2.2.2.2.2.2 hH.1 o (by rw [zk_at ho, zk_ent_o hc (zk_c6 h1)]) h1 k h2 (X.2.2.2.2.2.1 _ h5) (fun _ h => h) ?_ hd (kk p e s m args below meth c ad cs D H locs lsA X hH hS hl)
  rw [List.getElem?_map, List.getElem?_range (by omega)]
  simp [zk_fv, hc, hr]
/-- what a put wants of a class's table -/
def zk_FT (c k : Nat) (ty : FieldType) : Prop := ∀ (C : String) (T : u_T) (N : Nat), vwCl[c]? = some (C, T, N) → (∃ ty0 : Nat → FieldType, ∀ k, k < N → parseFieldDescriptor (T k).2.2.1 = some (ty0 k)) ∧ (∀ a, a < N → ∀ b, b < N → a ≠ b → (T a).2.1 ≠ (T b).2.1) ∧ (T k).2.2.2 = false ∧ parseFieldDescriptor (T k).2.2.1 = some ty
theorem zk_fset {ad : Nat → Nat} {o c k : Nat} {v : Int32} (hc : σ.2.1 o = c) (hr : zk_isref c k = false) : ((List.range (zk_nf c)).map (zk_fv ad σ M o)).set k (.int v) = (List.range (zk_nf c)).map (zk_fv ad σ (va_up M o (va_up (M o) k v)) o) := by
  apply List.ext_getElem?
  intro j
  by_cases hj : j = k
  · subst hj
    by_cases hl : j < zk_nf c
    · rw [List.getElem?_set_self (by simpa using hl), List.getElem?_map, List.getElem?_range hl]
      simp [zk_fv, hc, hr, va_up]
    · rw [List.getElem?_eq_none (by simp; omega), List.getElem?_eq_none (by simp; omega)]
  · rw [List.getElem?_set_ne (fun h => hj h.symm)]
    by_cases hl : j < zk_nf c
    · rw [List.getElem?_map, List.getElem?_map, List.getElem?_range hl]
      simp [zk_fv, va_up, hj]
    · rw [List.getElem?_eq_none (by simp; omega), List.getElem?_eq_none (by simp; omega)]
theorem zk_putG {o idx ci k : Nat} {ty : FieldType} {v : Int32} (hd : decode μ.2.1 pc = .ok (.putfield idx, 3)) (hf : zk_FL μ.2.2.2.2 idx ci k) (hty : zk_FT ci k ty) (hn : narrow ty (.int v) = .int v) (hfit : fits ty (.int v) = true) (ho : o < σ.1) (hc : σ.2.1 o = ci) (hr : zk_isref ci k = false) (kk : zk_R l σ d μ (pc + 3) ls (rest) (va_up M o (va_up (M o) k v)) L Q) : zk_R l σ d μ (pc) ls (.int v :: .ref o :: rest) M L Q := by
  intro p e s m args below meth c ad cs D H locs lsA X hH hS hl
  obtain ⟨C, T, N, h1, h2, h3, h4, h5⟩ := hf
  obtain ⟨⟨ty0, t1⟩, t2, t3, t4⟩ := hty C T N h1
  refine va_put (D := D) (ci := ci) (v := .int v) (ty := ty) (C := C) (T := T) (N := N) X.1 X.2.1 X.2.2.2.2.2.1 h4 ty0 t1 t2 X.2.2.2.2.1 X.2.2.2.2.2.2.2.2 hH.1 hH.2 hS o (fs := (List.range (zk_nf ci)).map (zk_fv ad σ M o)) (by rw [zk_at ho, zk_ent_o hc (zk_c6 h1)]) h1 k h2 (X.2.2.2.2.2.1 _ h5) (fun _ h => h) t3 t4 hn hfit (by simp; omega) hd (fun H1 locs1 hP hD hS1 => ?_)
  rw [zk_fset hc hr, ← zk_ent_o (cs := cs) (L := L) hc (zk_c6 h1), zk_setM] at hP hD
  exact kk p e s m args below meth c ad cs D H1 locs1 lsA X ⟨hP, hD⟩ hS1 hl
theorem zk_iald {o : Nat} {i : Int32} (hd : decode μ.2.1 pc = .ok (.iaload, 1)) (ho : o < σ.1) (hc : σ.2.1 o = 100) (hi : vp_in i (σ.2.2.1 o)) (kk : zk_R l σ d μ (pc + 1) ls (.int (M o i.toNatClampNeg) :: rest) M L Q) : zk_R l σ d μ (pc) ls (.int i :: .ref o :: rest) M L Q := by
  intro p e s m args below meth c ad cs D H locs lsA X hH hS hl
  exact va_iald (D := D) (tys := zk_ty cs) X.1 X.2.1 X.2.2.2.2.2.2.2.2 hH.1 o 0 (by rw [zk_at ho, zk_ent_i hc]) rfl hi hd (kk p e s m args below meth c ad cs D H locs lsA X hH hS hl)
theorem zk_lald {o : Nat} {i : Int32} (hd : decode μ.2.1 pc = .ok (.laload, 1)) (ho : o < σ.1) (hc : σ.2.1 o = 101) (hi : vp_in i (σ.2.2.1 o)) (kk : zk_R l σ d μ (pc + 1) ls (.long (L o i.toNatClampNeg) :: rest) M L Q) : zk_R l σ d μ (pc) ls (.int i :: .ref o :: rest) M L Q := by
  intro p e s m args below meth c ad cs D H locs lsA X hH hS hl
  exact va_lald (D := D) (tys := zk_ty cs) X.1 X.2.1 X.2.2.2.2.2.2.2.2 hH.1 o 1 (by rw [zk_at ho, zk_ent_l hc]) rfl hi hd (kk p e s m args below meth c ad cs D H locs lsA X hH hS hl)
theorem zk_aald {o : Nat} {i : Int32} (hd : decode μ.2.1 pc = .ok (.aaload, 1)) (ho : o < σ.1) (hc : σ.2.1 o = 102) (hi : vp_in i (σ.2.2.1 o)) (kk : zk_R l σ d μ (pc + 1) ls (.ref (σ.2.2.2 o i.toNatClampNeg) :: rest) M L Q) : zk_R l σ d μ (pc) ls (.int i :: .ref o :: rest) M L Q := by
  intro p e s m args below meth c ad cs D H locs lsA X hH hS hl
  exact va_aldq (D := D) (tys := zk_ty cs) X.1 X.2.1 X.2.2.2.2.2.2.2.2 hH.1 o 2 (f := fun j => some (ad (σ.2.2.2 o j))) (by rw [zk_at ho, zk_ent_q hc]) rfl hi hd (kk p e s m args below meth c ad cs D H locs lsA X hH hS hl)
theorem zk_iast {o : Nat} {i x : Int32} (hd : decode μ.2.1 pc = .ok (.iastore, 1)) (ho : o < σ.1) (hc : σ.2.1 o = 100) (hi : vp_in i (σ.2.2.1 o)) (kk : zk_R l σ d μ (pc + 1) ls (rest) (va_up M o (va_up (M o) i.toNatClampNeg x)) L Q) : zk_R l σ d μ (pc) ls (.int x :: .int i :: .ref o :: rest) M L Q := by
  intro p e s m args below meth c ad cs D H locs lsA X hH hS hl
  refine va_iast (D := D) (tys := zk_ty cs) X.1 X.2.1 X.2.2.2.2.2.2.2.2 hH.1 hH.2 hS o 0 (by rw [zk_at ho, zk_ent_i hc]) rfl hi hd (fun H1 locs1 hP hD hS1 => ?_)
  have e1 : (Sum.inl (cs.1, σ.2.2.1 o, Sum.inl (upd (M o) i.toNatClampNeg x)) : va_E) = zk_ent ad cs σ (va_up M o (va_up (M o) i.toNatClampNeg x)) L o := by rw [zk_ent_i hc, zk_up_eq]; rfl
  rw [e1, zk_setM] at hP hD
  exact kk p e s m args below meth c ad cs D H1 locs1 lsA X ⟨hP, hD⟩ hS1 hl
theorem zk_last {o : Nat} {i : Int32} {x : Int64} (hd : decode μ.2.1 pc = .ok (.lastore, 1)) (ho : o < σ.1) (hc : σ.2.1 o = 101) (hi : vp_in i (σ.2.2.1 o)) (kk : zk_R l σ d μ (pc + 1) ls (rest) M (va_up L o (va_up (L o) i.toNatClampNeg x)) Q) : zk_R l σ d μ (pc) ls (.long x :: .int i :: .ref o :: rest) M L Q := by
  intro p e s m args below meth c ad cs D H locs lsA X hH hS hl
  refine va_last (D := D) (tys := zk_ty cs) X.1 X.2.1 X.2.2.2.2.2.2.2.2 hH.1 hH.2 hS o 1 (by rw [zk_at ho, zk_ent_l hc]) rfl hi hd (fun H1 locs1 hP hD hS1 => ?_)
  have e1 : (Sum.inl (cs.2.1, σ.2.2.1 o, Sum.inr (Sum.inl (vp_updL (L o) i.toNatClampNeg x))) : va_E) = zk_ent ad cs σ M (va_up L o (va_up (L o) i.toNatClampNeg x)) o := by rw [zk_ent_l hc, zk_up_eq]; rfl
  rw [e1, zk_setL] at hP hD
  exact kk p e s m args below meth c ad cs D H1 locs1 lsA X ⟨hP, hD⟩ hS1 hl
/-! ends -/
theorem zk_iret {v : Int32} (hr : μ.2.2.2.1 = some .int) (hd : decode μ.2.1 pc = .ok (.ireturn, 1)) (hq : Q (some (.int v)) M L) : zk_R l σ d μ (pc) ls ([.int v]) M L Q := by
  intro p e s m args below meth c ad cs D H locs lsA X hH hS hl
  exact W.iret (v := v) X.1 X.2.1 (X.2.2.1.trans hr) (fun t ht hW => ⟨⟨some (.int v), M, L, rfl, hq, by rw [ht]; exact hH, va_K.moved hW.alike X.2.2.2.2.2.2.2.2⟩, hS.F ht⟩) hS.2.2 hd X.2.2.2.2.2.2.2.1
theorem zk_zret {v : Int32} (hr : μ.2.2.2.1 = some .boolean) (hn : narrow .boolean (.int v) = .int v) (hd : decode μ.2.1 pc = .ok (.ireturn, 1)) (hq : Q (some (.int v)) M L) : zk_R l σ d μ (pc) ls ([.int v]) M L Q := by
  intro p e s m args below meth c ad cs D H locs lsA X hH hS hl
  exact W.zret (v := v) X.1 X.2.1 (X.2.2.1.trans hr) hn (fun t ht hW => ⟨⟨some (.int v), M, L, rfl, hq, by rw [ht]; exact hH, va_K.moved hW.alike X.2.2.2.2.2.2.2.2⟩, hS.F ht⟩) hS.2.2 hd X.2.2.2.2.2.2.2.1
theorem zk_lret {v : Int64} (hr : μ.2.2.2.1 = some .long) (hd : decode μ.2.1 pc = .ok (.lreturn, 1)) (hq : Q (some (.long v)) M L) : zk_R l σ d μ (pc) ls ([.long v]) M L Q := by
  intro p e s m args below meth c ad cs D H locs lsA X hH hS hl
  exact W.lret (v := v) X.1 X.2.1 (X.2.2.1.trans hr) (fun t ht hW => ⟨⟨some (.long v), M, L, rfl, hq, by rw [ht]; exact hH, va_K.moved hW.alike X.2.2.2.2.2.2.2.2⟩, hS.F ht⟩) hS.2.2 hd X.2.2.2.2.2.2.2.1
theorem zk_vret (hr : μ.2.2.2.1 = none) (hd : decode μ.2.1 pc = .ok (.return_, 1)) (hq : Q none M L) : zk_R l σ d μ (pc) ls ([]) M L Q := by
  intro p e s m args below meth c ad cs D H locs lsA X hH hS hl
  exact W.vret X.1 X.2.1 (X.2.2.1.trans hr) (fun t ht hW => ⟨⟨none, M, L, rfl, hq, by rw [ht]; exact hH, va_K.moved hW.alike X.2.2.2.2.2.2.2.2⟩, hS.F ht⟩) hS.2.2 hd X.2.2.2.2.2.2.2.1

end ZKR
end
section
section ZKC
variable {l : Launch} {σ : zk_Sh} {d d' : Nat} {μ μ' : zk_I} {pc : Nat} {ls : List (Option Value)} {as st rest : List Value} {M M1 : zk_M} {L L1 : zk_L} {Q Q' : Option Value → zk_M → zk_L → Prop}
def zk_sl (as : List Value) : List (Option Value) := as.flatMap (fun v => if v.category = 2 then [some v, none] else [some v])
theorem zk_sl_len (ad : Nat → Nat) (as : List Value) : (lg_sl (as.map (zk_mv ad))).length = (zk_sl as).length := by
  induction as with
  | nil => rfl
  | cons a as ih =>
    simp only [zk_sl, lg_sl, List.map_cons, List.flatMap_cons, List.length_append, zk_mv_cat] at ih ⊢
    rw [ih]
    split <;> rfl
theorem zk_sl_args (ad : Nat → Nat) (n : Nat) : ∀ (as : List Value) (k i : Nat) (v : Value), (zk_sl as ++ List.replicate n none)[i]? = some (some v) → (k + i, zk_mv ad v) ∈ lv_args k (as.map (zk_mv ad))
  | [], k, i, v, h => by
    exfalso
    simp only [zk_sl, List.flatMap_nil, List.nil_append] at h
    have := List.mem_of_getElem? h
    simp at this
  | a :: as, k, i, v, h => by
    simp only [zk_sl, List.flatMap_cons, List.map_cons, lv_args, zk_mv_cat] at h ⊢
    by_cases hc : a.category = 2
    · simp only [hc, if_true, List.cons_append, List.nil_append] at h ⊢
      match i, h with
      | 0, h => simp at h; subst h; exact List.mem_cons_self
      | 1, h => simp at h
      | i + 2, h =>
        refine List.mem_cons_of_mem _ ?_
        have := zk_sl_args ad n as (k + 2) i v (by simpa [zk_sl] using h)
        rwa [show k + (i + 2) = k + 2 + i by omega]
    · simp only [hc, if_false, List.cons_append, List.nil_append] at h ⊢
      match i, h with
      | 0, h => simp at h; subst h; exact List.mem_cons_self
      | i + 1, h =>
        refine List.mem_cons_of_mem _ ?_
        have := zk_sl_args ad n as (k + 1) i v (by simpa [zk_sl] using h)
        rwa [show k + (i + 1) = k + 1 + i by omega]
theorem zk_ofR (hy : plainName μ.1.cls = true) (hown : μ.1.cls = μ.2.2.2.2) (hlen : (zk_sl as).length ≤ μ.2.2.1) (hls : zk_sl as ++ List.replicate (μ.2.2.1 - (zk_sl as).length) none = ls) (h : zk_R l σ d μ 0 ls [] M L Q) : zk_C l σ d μ as M L Q := by
  intro ad cs D sz
  refine Met.ofW (cc := μ.2.1) (maxL := μ.2.2.1) (ret := μ.2.2.2.1) hy rfl ?_
  intro p e s m args below meth c s₁ B hml hv
  obtain ⟨rfl, hsz, hH, hK, hN⟩ := hv
  have hts := atoms_spec (ws := zk_wd μ) B.pre
  have hown' : s.vm.findClass μ.1.cls = some m.cls := findClass_of_methodNamed B.named
  subst hsz
  have he := lv_entry (as.map (zk_mv ad)) (n := μ.2.2.1) (by rw [zk_sl_len]; exact hlen)
  rw [lg_entry_eq]
  generalize (lg_sl (as.map (zk_mv ad)) ++ List.replicate (μ.2.2.1 - (lg_sl (as.map (zk_mv ad))).length) Slot.unset).toArray = lsA at he ⊢
  refine h p e s m _ below meth c ad cs D s.heap [] lsA ⟨B.exec, B.bytes, B.returns, hml, by rw [← hown]; exact hown', fun w hw => hts w (List.mem_cons_of_mem _ hw), hN, B.notSynchronized, hK⟩ ⟨hH.1, hH.2.weaken (fun k q hq _ => ?_)⟩ va_S.rf ⟨he.1, he.2.1, ?_, fun i v hi => ?_⟩
  · have hk : k < σ.1 := by have := (List.getElem?_eq_some_iff.mp hq).1; simpa [zk_ws] using this
    rw [zk_at hk] at hq
    cases hq
    exact Or.inl ⟨k, hk, rfl⟩
  · rw [← hls]
    simp
    omega
  · subst hls
    have := zk_sl_args ad _ as 0 i v hi
    rw [Nat.zero_add] at this
    exact he.2.2 _ this
/-- a call that has come back -/
theorem zk_goes {p : Program} {e : Env} {R : Room} {s : State} {m : MethodId} {args : Array Value} {below : List Frame} {meth : Method} {c : Code} {H : Heap} {locs : List Loc} {QW : State → Prop} {lsA : Array Slot} {st0 rs : List Value} {ad : Nat → Nat} {cs : ClassId × ClassId × ClassId} {D : va_G} {a : Array Value}
    (hr : va_Run p l e R s m args below meth c H locs 0 0 0 0 (F0 m pc lsA st0) rs (zk_Q σ ad cs D (zk_A σ ad H.size) Q' a) (zk_A σ ad H.size)) (hS : va_S (zk_A σ ad s.heap.size) s.heap H locs)
    (kk : ∀ (r : Option Value) (M1 : zk_M) (L1 : zk_L) (H1 : Heap) (locs1 : List Loc), Q' r M1 L1 → zk_H σ ad cs D (zk_A σ ad s.heap.size) M1 L1 H1 → va_S (zk_A σ ad s.heap.size) s.heap H1 locs1 → W p l e R s m args below meth c H1 locs1 0 0 QW (F0 m (pc + 3) lsA ((r.map (zk_mv ad)).toList ++ rs))) : W p l e R s m args below meth c H locs 0 0 QW (F0 m pc lsA st0) := by
  intro T hT X
  obtain ⟨v, st₀, t, T', L2, h0, X', hL, e1, e2, ⟨⟨r, M1, L1, hv, hq, hH1, hK1⟩, hz, hk⟩, st⟩ := hr T hT X
  have hv' : v = r.map (zk_mv ad) := by injection hv
  subst hv'
  rw [h0] at hz hk
  have hA : ∀ q, zk_A σ ad H.size q → zk_A σ ad s.heap.size q := fun q h => h.elim Or.inl (fun h => Or.inr (Nat.le_trans hS.1 h))
  obtain ⟨t2, a1, b1⟩ := kk r M1 L1 T'.heap (locs ++ L2) hq (by rw [e1]; exact ⟨hH1.1, hH1.2.weaken (fun k q _ h => hA _ h)⟩) ⟨Nat.le_trans hS.1 (by rw [e1]; exact hz), fun q h1 h2 => by rw [e1, hk q (Nat.lt_of_lt_of_le h1 hS.1) (fun z => h2 (hA q z))]; exact hS.2.1 q h1 h2, fun q hq => by
      rcases List.mem_append.mp hq with h | h
      · exact hS.2.2 q h
      · exact hA _ (hL q h)⟩ T' rfl X'
  exact ⟨t2, st t2 a1, b1⟩
/-- a method's own facts: its code among the words, its class, its parameters -/
def zk_MI (μ : zk_I) (n : Nat) : Prop := Cond.code μ.1 μ.2.1 μ.2.2.1 μ.2.2.2.1 ∈ zk_tb ∧ Cond.initialized μ.1.cls ∈ zk_tb ∧ (μ.1.cls ≠ "java/lang/invoke/MethodHandle" ∧ μ.1.cls ≠ "java/lang/invoke/VarHandle" ∧ (parseMethodDescriptor μ.1.desc).map (fun d => d.parameters.length) = some n) ∧ μ.2.2.1 ≤ 19
theorem zk_gd {n : Nat} (h : zk_MI μ n) : GoodIn zk_tb (zk_wd μ) := fun w hw => by
  rcases List.mem_cons.mp hw with e | h'
  · rw [e]; exact ⟨h.1, zk_good _ h.1⟩
  · exact ⟨h', zk_good _ h'⟩
theorem zk_room {n : Nat} (h : zk_MI μ n) (hd : d' + 1 ≤ d) : (zk_rm d').frames + 1 ≤ (zk_rm d).frames ∧ 8 + (μ.2.2.1 + 11) + (zk_rm d').locals ≤ (zk_rm d).locals := by
  have := h.2.2.2
  refine ⟨hd, ?_⟩
  show 8 + (μ.2.2.1 + 11) + 38 * d' ≤ 38 * d
  omega
theorem zk_nw_tab : ∀ w ∈ zk_nw, w.onTables = true := fun w h => by
  have h2 := (List.mem_filter.mp h).2
  cases w <;> first | rfl | (exact absurd h2 (fun q => by cases q))
theorem zk_nw_warm {s U : State} (hW : s.WarmedH U.vm) (h : ∀ w ∈ zk_nw, va_Nw w s) : ∀ w ∈ zk_nw, va_Nw w U := fun w hw => by
  have h1 := h w hw
  have h2 := (List.mem_filter.mp hw).2
  cases w <;> first | exact va_Nw.warmM hW h1 | (exact absurd h2 (fun q => by cases q))
theorem zk_blind {ad : Nat → Nat} {cs : ClassId × ClassId × ClassId} {D : va_G} {sz : Nat} {av : List Value} : FrameBlind (va_Pc av (fun U => U.heap.size = sz ∧ zk_H σ ad cs D (fun _ => True) M L U.heap ∧ va_K D vwCl (zk_ty cs) U ∧ ∀ w ∈ zk_nw, va_Nw w U)) := by
  intro a U g mk q
  obtain ⟨q0, q1, q2, q3, q4⟩ := q
  exact ⟨q0, q1, q2, va_K.moved (u := U) (U := U.calling g mk a) (Vm.Alike.refl U.vm) q3, fun w hw => va_Nw.same (u := U) (U := U.calling g mk a) (zk_nw_tab w hw) rfl (q4 w hw)⟩
theorem zk_toL {ad : Nat → Nat} {r : Option Value} {rest : List Value} : (r.map (zk_mv ad)).toList ++ rest.map (zk_mv ad) = (r.toList ++ rest).map (zk_mv ad) := by cases r <;> rfl
theorem zk_cats {ad : Nat → Nat} {rest : List Value} : ((rest.map (zk_mv ad)).map fun v => v.category) = rest.map fun v => v.category := by
  rw [List.map_map]
  exact List.map_congr_left (fun v _ => zk_mv_cat ad v)
theorem zk_callS {n idx : Nat} (hc : zk_C l σ d' μ' as M L Q') (hd : decode μ.2.1 pc = .ok (.invokestatic idx, 3)) (hi : zk_MI μ' n) (hlk : Cond.methodLink μ.2.2.2.2 idx μ'.1 ∈ zk_tb) (hst : Cond.static μ'.1 ∈ zk_tb) (hn : as.length = n) (hdd : d' + 1 ≤ d) (hs : st = as.reverse ++ rest) (hcat : (rest.map fun v => v.category).sum ≤ 8)
    (kk : ∀ (r : Option Value) (M1 : zk_M) (L1 : zk_L), Q' r M1 L1 → zk_R l σ d μ (pc + 3) ls (r.toList ++ rest) M1 L1 Q) : zk_R l σ d μ pc ls st M L Q := by
  intro p e s m args below meth c ad cs D H locs lsA X hH hS hl
  subst hs
  have hT := X.2.2.2.2.2.1
  refine zk_goes (rs := rest.map (zk_mv ad)) (va_runS (As := as.map (zk_mv ad)) (rest := rest.map (zk_mv ad)) ⟨X.1, X.2.1, X.2.2.2.1, X.2.2.2.2.1, hT⟩ (hc ad cs D H.size) ⟨callB_of n hT (zk_gd hi) rfl rfl rfl (hT _ hi.2.1) (hT _ hlk) hi.2.2.1 (zk_room hi hdd), hT _ hst⟩ ⟨zk_blind, fun U hU hW => ⟨rfl, by rw [hU], by rw [hU]; exact ⟨hH.1, hH.2.weaken (fun _ _ _ _ => trivial)⟩, va_K.moved hW.alike X.2.2.2.2.2.2.2.2, zk_nw_warm hW X.2.2.2.2.2.2.1⟩⟩ rfl (by simpa using hn) hl.1 (by simp) (lv_room (by rw [zk_cats]; exact hcat)) hd ⟨Nat.le_refl _, Nat.le_refl _⟩) hS (fun r M1 L1 H1 locs1 hq hH1 hS1 => ?_)
  rw [zk_toL]
  exact kk r M1 L1 hq p e s m args below meth c ad cs D H1 locs1 lsA X hH1 hS1 hl
theorem zk_callN {n idx : Nat} {host : String} (hc : zk_C l σ d' μ' as M L Q') (hd : decode μ.2.1 pc = .ok (.invokestatic idx, 3)) (hi : zk_MI μ' n) (hlk : Cond.methodLinkNest μ.2.2.2.2 idx μ'.1 host ∈ zk_nw) (hst : Cond.static μ'.1 ∈ zk_tb) (hn : as.length = n) (hdd : d' + 1 ≤ d) (hs : st = as.reverse ++ rest) (hcat : (rest.map fun v => v.category).sum ≤ 8)
    (kk : ∀ (r : Option Value) (M1 : zk_M) (L1 : zk_L), Q' r M1 L1 → zk_R l σ d μ (pc + 3) ls (r.toList ++ rest) M1 L1 Q) : zk_R l σ d μ pc ls st M L Q := by
  intro p e s m args below meth c ad cs D H locs lsA X hH hS hl
  subst hs
  have hT := X.2.2.2.2.2.1
  refine zk_goes (rs := rest.map (zk_mv ad)) (va_runSN (As := as.map (zk_mv ad)) (rest := rest.map (zk_mv ad)) ⟨X.1, X.2.1, X.2.2.2.1, X.2.2.2.2.1, hT⟩ (hc ad cs D H.size) ⟨va_cnB n hT (zk_gd hi) rfl rfl rfl (X.2.2.2.2.2.2.1 _ hlk) (hT _ hi.2.1) hi.2.2.1 (zk_room hi hdd), hT _ hst, trivial⟩ ⟨zk_blind, fun U hU hW => ⟨rfl, by rw [hU], by rw [hU]; exact ⟨hH.1, hH.2.weaken (fun _ _ _ _ => trivial)⟩, va_K.moved hW.alike X.2.2.2.2.2.2.2.2, zk_nw_warm hW X.2.2.2.2.2.2.1⟩⟩ rfl (by simpa using hn) hl.1 (by simp) (lv_room (by rw [zk_cats]; exact hcat)) hd ⟨Nat.le_refl _, Nat.le_refl _⟩) hS (fun r M1 L1 H1 locs1 hq hH1 hS1 => ?_)
  rw [zk_toL]
  exact kk r M1 L1 hq p e s m args below meth c ad cs D H1 locs1 lsA X hH1 hS1 hl
/-- an instance method's facts: its class's number -/
def zk_MV (μ : zk_I) (n c : Nat) : Prop := zk_MI μ n ∧ Cond.instanceMethod μ.1 ∈ zk_tb ∧ Cond.selects μ.1.cls μ.1 μ.1 ∈ zk_tb ∧ ∃ (T : u_T) (N : Nat), vwCl[c]? = some (μ.1.cls, T, N)
theorem zk_callV {n idx ci o : Nat} (hc : zk_C l σ d' μ' (.ref o :: as) M L Q') (hd : decode μ.2.1 pc = .ok (.invokevirtual idx, 3)) (hi : zk_MV μ' n ci) (hlk : Cond.methodLink μ.2.2.2.2 idx μ'.1 ∈ zk_tb) (ho : o < σ.1) (hk : σ.2.1 o = ci) (hn : as.length = n) (hdd : d' + 1 ≤ d) (hs : st = as.reverse ++ .ref o :: rest) (hcat : (rest.map fun v => v.category).sum ≤ 8)
    (kk : ∀ (r : Option Value) (M1 : zk_M) (L1 : zk_L), Q' r M1 L1 → zk_R l σ d μ (pc + 3) ls (r.toList ++ rest) M1 L1 Q) : zk_R l σ d μ pc ls st M L Q := by
  intro p e s m args below meth c ad cs D H locs lsA X hH hS hl
  subst hs
  have hT := X.2.2.2.2.2.1
  obtain ⟨hi, hin, hse, TT, NN, hcl⟩ := hi
  have hrecv := va_recv (q0 := o) (a := ad o) X.2.2.2.2.2.2.2.2 hH.1 hcl (by rw [zk_at ho, zk_ent_o hk (zk_c6 hcl)])
  refine zk_goes (rs := rest.map (zk_mv ad)) (va_runV (As := as.map (zk_mv ad)) (rest := rest.map (zk_mv ad)) (b := ad o) (C := μ'.1.cls) ⟨X.1, X.2.1, X.2.2.2.1, X.2.2.2.2.1, hT⟩ (hc ad cs D H.size) ⟨callB_of n hT (zk_gd hi) rfl rfl rfl (hT _ hi.2.1) (hT _ hlk) hi.2.2.1 (zk_room hi hdd), hT _ hin, hT _ hse⟩ ⟨zk_blind, hrecv, fun U hU hW => ⟨rfl, by rw [hU], by rw [hU]; exact ⟨hH.1, hH.2.weaken (fun _ _ _ _ => trivial)⟩, va_K.moved hW.alike X.2.2.2.2.2.2.2.2, zk_nw_warm hW X.2.2.2.2.2.2.1⟩⟩ rfl (by simpa using hn) hl.1 (by simp [zk_mv]) (lv_room (by rw [zk_cats]; exact hcat)) hd ⟨Nat.le_refl _, Nat.le_refl _⟩) hS (fun r M1 L1 H1 locs1 hq hH1 hS1 => ?_)
  rw [zk_toL]
  exact kk r M1 L1 hq p e s m args below meth c ad cs D H1 locs1 lsA X hH1 hS1 hl

theorem zk_cSi {n idx : Nat} {v : Int32} (hc : zk_C l σ d' μ' as M L (zk_Ei v M1 L1)) (hd : decode μ.2.1 pc = .ok (.invokestatic idx, 3)) (hi : zk_MI μ' n) (hlk : Cond.methodLink μ.2.2.2.2 idx μ'.1 ∈ zk_tb) (hst : Cond.static μ'.1 ∈ zk_tb) (hn : as.length = n) (hdd : d' + 1 ≤ d) (hs : st = as.reverse ++ rest) (hcat : (rest.map fun v => v.category).sum ≤ 8) (kk : zk_R l σ d μ (pc + 3) ls (.int v :: rest) M1 L1 Q) : zk_R l σ d μ pc ls st M L Q :=
  zk_callS hc hd hi hlk hst hn hdd hs hcat (fun r M2 L2 h => by obtain ⟨rfl, rfl, rfl⟩ := h; exact kk)
theorem zk_cSl {n idx : Nat} {v : Int64} (hc : zk_C l σ d' μ' as M L (zk_El v M1 L1)) (hd : decode μ.2.1 pc = .ok (.invokestatic idx, 3)) (hi : zk_MI μ' n) (hlk : Cond.methodLink μ.2.2.2.2 idx μ'.1 ∈ zk_tb) (hst : Cond.static μ'.1 ∈ zk_tb) (hn : as.length = n) (hdd : d' + 1 ≤ d) (hs : st = as.reverse ++ rest) (hcat : (rest.map fun v => v.category).sum ≤ 8) (kk : zk_R l σ d μ (pc + 3) ls (.long v :: rest) M1 L1 Q) : zk_R l σ d μ pc ls st M L Q :=
  zk_callS hc hd hi hlk hst hn hdd hs hcat (fun r M2 L2 h => by obtain ⟨rfl, rfl, rfl⟩ := h; exact kk)
theorem zk_cSv {n idx : Nat}  (hc : zk_C l σ d' μ' as M L (zk_Ev M1 L1)) (hd : decode μ.2.1 pc = .ok (.invokestatic idx, 3)) (hi : zk_MI μ' n) (hlk : Cond.methodLink μ.2.2.2.2 idx μ'.1 ∈ zk_tb) (hst : Cond.static μ'.1 ∈ zk_tb) (hn : as.length = n) (hdd : d' + 1 ≤ d) (hs : st = as.reverse ++ rest) (hcat : (rest.map fun v => v.category).sum ≤ 8) (kk : zk_R l σ d μ (pc + 3) ls (rest) M1 L1 Q) : zk_R l σ d μ pc ls st M L Q :=
  zk_callS hc hd hi hlk hst hn hdd hs hcat (fun r M2 L2 h => by obtain ⟨rfl, rfl, rfl⟩ := h; exact kk)
theorem zk_cNi {n idx : Nat} {host : String} {v : Int32} (hc : zk_C l σ d' μ' as M L (zk_Ei v M1 L1)) (hd : decode μ.2.1 pc = .ok (.invokestatic idx, 3)) (hi : zk_MI μ' n) (hlk : Cond.methodLinkNest μ.2.2.2.2 idx μ'.1 host ∈ zk_nw) (hst : Cond.static μ'.1 ∈ zk_tb) (hn : as.length = n) (hdd : d' + 1 ≤ d) (hs : st = as.reverse ++ rest) (hcat : (rest.map fun v => v.category).sum ≤ 8) (kk : zk_R l σ d μ (pc + 3) ls (.int v :: rest) M1 L1 Q) : zk_R l σ d μ pc ls st M L Q :=
  zk_callN hc hd hi hlk hst hn hdd hs hcat (fun r M2 L2 h => by obtain ⟨rfl, rfl, rfl⟩ := h; exact kk)
theorem zk_cNl {n idx : Nat} {host : String} {v : Int64} (hc : zk_C l σ d' μ' as M L (zk_El v M1 L1)) (hd : decode μ.2.1 pc = .ok (.invokestatic idx, 3)) (hi : zk_MI μ' n) (hlk : Cond.methodLinkNest μ.2.2.2.2 idx μ'.1 host ∈ zk_nw) (hst : Cond.static μ'.1 ∈ zk_tb) (hn : as.length = n) (hdd : d' + 1 ≤ d) (hs : st = as.reverse ++ rest) (hcat : (rest.map fun v => v.category).sum ≤ 8) (kk : zk_R l σ d μ (pc + 3) ls (.long v :: rest) M1 L1 Q) : zk_R l σ d μ pc ls st M L Q :=
  zk_callN hc hd hi hlk hst hn hdd hs hcat (fun r M2 L2 h => by obtain ⟨rfl, rfl, rfl⟩ := h; exact kk)
theorem zk_cNv {n idx : Nat} {host : String}  (hc : zk_C l σ d' μ' as M L (zk_Ev M1 L1)) (hd : decode μ.2.1 pc = .ok (.invokestatic idx, 3)) (hi : zk_MI μ' n) (hlk : Cond.methodLinkNest μ.2.2.2.2 idx μ'.1 host ∈ zk_nw) (hst : Cond.static μ'.1 ∈ zk_tb) (hn : as.length = n) (hdd : d' + 1 ≤ d) (hs : st = as.reverse ++ rest) (hcat : (rest.map fun v => v.category).sum ≤ 8) (kk : zk_R l σ d μ (pc + 3) ls (rest) M1 L1 Q) : zk_R l σ d μ pc ls st M L Q :=
  zk_callN hc hd hi hlk hst hn hdd hs hcat (fun r M2 L2 h => by obtain ⟨rfl, rfl, rfl⟩ := h; exact kk)
theorem zk_cVi {n idx ci o : Nat} {v : Int32} (hc : zk_C l σ d' μ' (.ref o :: as) M L (zk_Ei v M1 L1)) (hd : decode μ.2.1 pc = .ok (.invokevirtual idx, 3)) (hi : zk_MV μ' n ci) (hlk : Cond.methodLink μ.2.2.2.2 idx μ'.1 ∈ zk_tb) (ho : o < σ.1) (hk : σ.2.1 o = ci) (hn : as.length = n) (hdd : d' + 1 ≤ d) (hs : st = as.reverse ++ .ref o :: rest) (hcat : (rest.map fun v => v.category).sum ≤ 8) (kk : zk_R l σ d μ (pc + 3) ls (.int v :: rest) M1 L1 Q) : zk_R l σ d μ pc ls st M L Q :=
  zk_callV hc hd hi hlk ho hk hn hdd hs hcat (fun r M2 L2 h => by obtain ⟨rfl, rfl, rfl⟩ := h; exact kk)
theorem zk_cVl {n idx ci o : Nat} {v : Int64} (hc : zk_C l σ d' μ' (.ref o :: as) M L (zk_El v M1 L1)) (hd : decode μ.2.1 pc = .ok (.invokevirtual idx, 3)) (hi : zk_MV μ' n ci) (hlk : Cond.methodLink μ.2.2.2.2 idx μ'.1 ∈ zk_tb) (ho : o < σ.1) (hk : σ.2.1 o = ci) (hn : as.length = n) (hdd : d' + 1 ≤ d) (hs : st = as.reverse ++ .ref o :: rest) (hcat : (rest.map fun v => v.category).sum ≤ 8) (kk : zk_R l σ d μ (pc + 3) ls (.long v :: rest) M1 L1 Q) : zk_R l σ d μ pc ls st M L Q :=
  zk_callV hc hd hi hlk ho hk hn hdd hs hcat (fun r M2 L2 h => by obtain ⟨rfl, rfl, rfl⟩ := h; exact kk)
theorem zk_cVv {n idx ci o : Nat}  (hc : zk_C l σ d' μ' (.ref o :: as) M L (zk_Ev M1 L1)) (hd : decode μ.2.1 pc = .ok (.invokevirtual idx, 3)) (hi : zk_MV μ' n ci) (hlk : Cond.methodLink μ.2.2.2.2 idx μ'.1 ∈ zk_tb) (ho : o < σ.1) (hk : σ.2.1 o = ci) (hn : as.length = n) (hdd : d' + 1 ≤ d) (hs : st = as.reverse ++ .ref o :: rest) (hcat : (rest.map fun v => v.category).sum ≤ 8) (kk : zk_R l σ d μ (pc + 3) ls (rest) M1 L1 Q) : zk_R l σ d μ pc ls st M L Q :=
  zk_callV hc hd hi hlk ho hk hn hdd hs hcat (fun r M2 L2 h => by obtain ⟨rfl, rfl, rfl⟩ := h; exact kk)
theorem zk_mmin {idx : Nat} {x y : Int32} (hd : decode μ.2.1 pc = .ok (.invokestatic idx, 3)) (hlk : Cond.methodLink μ.2.2.2.2 idx Lib.Math.min.name ∈ zk_tb) (hst : Cond.static Lib.Math.min.name ∈ zk_tb) (hin : Cond.initialized "java/lang/Math" ∈ zk_tb) (hco : Cond.code Lib.Math.min.name Lib.Math.min.code 2 (some .int) ∈ zk_tb) (hdd : 1 ≤ d) (hcat : (rest.map fun v => v.category).sum ≤ 8) (kk : zk_R l σ d μ (pc + 3) ls (.int (if y < x then y else x) :: rest) M L Q) : zk_R l σ d μ (pc) ls (.int y :: .int x :: rest) M L Q := by
  intro p e s m args below meth c ad cs D H locs lsA X hH hS hl
  have hT := X.2.2.2.2.2.1
  exact va_mmin X.1 X.2.1 (X.2.2.2.1.trans hl.1.symm) X.2.2.2.2.1 (hT _ hlk) (hT _ hst) (hT _ hin) (hT _ hco) hdd (by rw [zk_cats]; show _ + 13 ≤ 38 * d; omega) (Nat.le_refl _) (Nat.le_refl _) hd (kk p e s m args below meth c ad cs D H locs lsA X hH hS hl)
theorem zk_mmax {idx : Nat} {x y : Int32} (hd : decode μ.2.1 pc = .ok (.invokestatic idx, 3)) (hlk : Cond.methodLink μ.2.2.2.2 idx Lib.Math.max.name ∈ zk_tb) (hst : Cond.static Lib.Math.max.name ∈ zk_tb) (hin : Cond.initialized "java/lang/Math" ∈ zk_tb) (hco : Cond.code Lib.Math.max.name Lib.Math.max.code 2 (some .int) ∈ zk_tb) (hdd : 1 ≤ d) (hcat : (rest.map fun v => v.category).sum ≤ 8) (kk : zk_R l σ d μ (pc + 3) ls (.int (if x < y then y else x) :: rest) M L Q) : zk_R l σ d μ (pc) ls (.int y :: .int x :: rest) M L Q := by
  intro p e s m args below meth c ad cs D H locs lsA X hH hS hl
  have hT := X.2.2.2.2.2.1
  exact va_mmax X.1 X.2.1 (X.2.2.2.1.trans hl.1.symm) X.2.2.2.2.1 (hT _ hlk) (hT _ hst) (hT _ hin) (hT _ hco) hdd (by rw [zk_cats]; show _ + 13 ≤ 38 * d; omega) (Nat.le_refl _) (Nat.le_refl _) hd (kk p e s m args below meth c ad cs D H locs lsA X hH hS hl)
theorem zk_copy {idx o0 o1 : Nat} {sp dp n : Int32} (hd : decode μ.2.1 pc = .ok (.invokestatic idx, 3)) (hlk : Cond.methodLink μ.2.2.2.2 idx arraycopyName ∈ zk_tb) (hna : Cond.native arraycopyName ∈ zk_tb) (hst : Cond.static arraycopyName ∈ zk_tb) (hin : Cond.initialized "java/lang/System" ∈ zk_tb) (ho0 : o0 < σ.1) (hc0 : σ.2.1 o0 = 100) (ho1 : o1 < σ.1) (hc1 : σ.2.1 o1 = 100) (h1 : ¬ sp < 0) (h2 : ¬ dp < 0) (h3 : ¬ n < 0) (h4 : sp.toNatClampNeg + n.toNatClampNeg ≤ σ.2.2.1 o0) (h5 : dp.toNatClampNeg + n.toNatClampNeg ≤ σ.2.2.1 o1) (hdd : 1 ≤ d) (hcat : (rest.map fun v => v.category).sum + (nativeFrameWords "java/lang/System" "arraycopy" 5 + 11) ≤ 38 * d)
    (kk : zk_R l σ d μ (pc + 3) ls (rest) (va_up M o1 (va_cpy (M o0) (M o1) sp.toNatClampNeg dp.toNatClampNeg n.toNatClampNeg)) L Q) : zk_R l σ d μ (pc) ls (.int n :: .int dp :: .ref o1 :: .int sp :: .ref o0 :: rest) M L Q := by
  intro p e s m args below meth c ad cs D H locs lsA X hH hS hl
  have hT := X.2.2.2.2.2.1
  refine va_copyi (D := D) (tys := zk_ty cs) X.1 X.2.1 (X.2.2.2.1.trans hl.1.symm) X.2.2.2.2.1 (hT _ hlk) (hT _ hna) (hT _ hst) (hT _ hin) X.2.2.2.2.2.2.2.2 hH.1 hH.2 hS o0 o1 0 0 (a0 := ad o0) (a := ad o1) (by rw [zk_at ho0, zk_ent_i hc0]) (by rw [zk_at ho1, zk_ent_i hc1]) rfl rfl rfl h1 h2 h3 h4 h5 (fun _ _ => rfl) hdd (by rw [zk_cats]; exact hcat) hd (fun H1 locs1 hP hD hS1 => ?_)
  have e1 : (Sum.inl (cs.1, σ.2.2.1 o1, Sum.inl (va_cpy (M o0) (M o1) sp.toNatClampNeg dp.toNatClampNeg n.toNatClampNeg)) : va_E) = zk_ent ad cs σ (va_up M o1 (va_cpy (M o0) (M o1) sp.toNatClampNeg dp.toNatClampNeg n.toNatClampNeg)) L o1 := by rw [zk_ent_i hc1, zk_up_eq]
  rw [e1, zk_setM] at hP hD
  exact kk p e s m args below meth c ad cs D H1 locs1 lsA X ⟨hP, hD⟩ hS1 hl
end ZKC
end
