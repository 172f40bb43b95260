theorem dX0_init_0 : decode cX0_init 0 = .ok (.aload_n 0, 1) := by decide +kernel
theorem dX0_init_1 : decode cX0_init 1 = .ok (.invokespecial 3, 3) := by decide +kernel
theorem dX0_init_4 : decode cX0_init 4 = .ok (.aload_n 0, 1) := by decide +kernel
theorem dX0_init_5 : decode cX0_init 5 = .ok (.new 9, 3) := by decide +kernel
theorem dX0_init_8 : decode cX0_init 8 = .ok (.dup, 1) := by decide +kernel
theorem dX0_init_9 : decode cX0_init 9 = .ok (.invokespecial 11, 3) := by decide +kernel
theorem dX0_init_12 : decode cX0_init 12 = .ok (.putfield 12, 3) := by decide +kernel
theorem dX0_init_15 : decode cX0_init 15 = .ok (.aload_n 0, 1) := by decide +kernel
theorem dX0_init_16 : decode cX0_init 16 = .ok (.bipush 6, 2) := by decide +kernel
theorem dX0_init_18 : decode cX0_init 18 = .ok (.anewarray 18, 3) := by decide +kernel
theorem dX0_init_21 : decode cX0_init 21 = .ok (.putfield 20, 3) := by decide +kernel
theorem dX0_init_24 : decode cX0_init 24 = .ok (.iconst 0, 1) := by decide +kernel
theorem dX0_init_25 : decode cX0_init 25 = .ok (.istore_n 1, 1) := by decide +kernel
theorem dX0_init_26 : decode cX0_init 26 = .ok (.iload_n 1, 1) := by decide +kernel
theorem dX0_init_27 : decode cX0_init 27 = .ok (.bipush 6, 2) := by decide +kernel
theorem dX0_init_29 : decode cX0_init 29 = .ok (.if_icmp .ge 22, 3) := by decide +kernel
theorem dX0_init_32 : decode cX0_init 32 = .ok (.aload_n 0, 1) := by decide +kernel
theorem dX0_init_33 : decode cX0_init 33 = .ok (.getfield 20, 3) := by decide +kernel
theorem dX0_init_36 : decode cX0_init 36 = .ok (.iload_n 1, 1) := by decide +kernel
theorem dX0_init_37 : decode cX0_init 37 = .ok (.new 18, 3) := by decide +kernel
theorem dX0_init_40 : decode cX0_init 40 = .ok (.dup, 1) := by decide +kernel
theorem dX0_init_41 : decode cX0_init 41 = .ok (.invokespecial 24, 3) := by decide +kernel
theorem dX0_init_44 : decode cX0_init 44 = .ok (.aastore, 1) := by decide +kernel
theorem dX0_init_45 : decode cX0_init 45 = .ok (.iinc 1 1, 3) := by decide +kernel
theorem dX0_init_48 : decode cX0_init 48 = .ok (.goto (-22), 3) := by decide +kernel
theorem dX0_init_51 : decode cX0_init 51 = .ok (.return_, 1) := by decide +kernel
theorem dX0_becomes_0 : decode cX0_becomes 0 = .ok (.aload_n 0, 1) := by decide +kernel
theorem dX0_becomes_1 : decode cX0_becomes 1 = .ok (.getfield 12, 3) := by decide +kernel
theorem dX0_becomes_4 : decode cX0_becomes 4 = .ok (.aload_n 1, 1) := by decide +kernel
theorem dX0_becomes_5 : decode cX0_becomes 5 = .ok (.getfield 12, 3) := by decide +kernel
theorem dX0_becomes_8 : decode cX0_becomes 8 = .ok (.invokevirtual 25, 3) := by decide +kernel
theorem dX0_becomes_11 : decode cX0_becomes 11 = .ok (.iconst 0, 1) := by decide +kernel
theorem dX0_becomes_12 : decode cX0_becomes 12 = .ok (.istore_n 2, 1) := by decide +kernel
theorem dX0_becomes_13 : decode cX0_becomes 13 = .ok (.iload_n 2, 1) := by decide +kernel
theorem dX0_becomes_14 : decode cX0_becomes 14 = .ok (.bipush 6, 2) := by decide +kernel
theorem dX0_becomes_16 : decode cX0_becomes 16 = .ok (.if_icmp .ge 24, 3) := by decide +kernel
theorem dX0_becomes_19 : decode cX0_becomes 19 = .ok (.aload_n 0, 1) := by decide +kernel
theorem dX0_becomes_20 : decode cX0_becomes 20 = .ok (.getfield 20, 3) := by decide +kernel
theorem dX0_becomes_23 : decode cX0_becomes 23 = .ok (.iload_n 2, 1) := by decide +kernel
theorem dX0_becomes_24 : decode cX0_becomes 24 = .ok (.aaload, 1) := by decide +kernel
theorem dX0_becomes_25 : decode cX0_becomes 25 = .ok (.aload_n 1, 1) := by decide +kernel
theorem dX0_becomes_26 : decode cX0_becomes 26 = .ok (.getfield 20, 3) := by decide +kernel
theorem dX0_becomes_29 : decode cX0_becomes 29 = .ok (.iload_n 2, 1) := by decide +kernel
theorem dX0_becomes_30 : decode cX0_becomes 30 = .ok (.aaload, 1) := by decide +kernel
theorem dX0_becomes_31 : decode cX0_becomes 31 = .ok (.invokevirtual 29, 3) := by decide +kernel
theorem dX0_becomes_34 : decode cX0_becomes 34 = .ok (.iinc 2 1, 3) := by decide +kernel
theorem dX0_becomes_37 : decode cX0_becomes 37 = .ok (.goto (-24), 3) := by decide +kernel
theorem dX0_becomes_40 : decode cX0_becomes 40 = .ok (.aload_n 0, 1) := by decide +kernel
theorem dX0_becomes_41 : decode cX0_becomes 41 = .ok (.aload_n 1, 1) := by decide +kernel
theorem dX0_becomes_42 : decode cX0_becomes 42 = .ok (.getfield 32, 3) := by decide +kernel
theorem dX0_becomes_45 : decode cX0_becomes 45 = .ok (.putfield 32, 3) := by decide +kernel
theorem dX0_becomes_48 : decode cX0_becomes 48 = .ok (.aload_n 0, 1) := by decide +kernel
theorem dX0_becomes_49 : decode cX0_becomes 49 = .ok (.aload_n 1, 1) := by decide +kernel
theorem dX0_becomes_50 : decode cX0_becomes 50 = .ok (.getfield 36, 3) := by decide +kernel
theorem dX0_becomes_53 : decode cX0_becomes 53 = .ok (.putfield 36, 3) := by decide +kernel
theorem dX0_becomes_56 : decode cX0_becomes 56 = .ok (.return_, 1) := by decide +kernel
theorem dX0_hasRider_0 : decode cX0_hasRider 0 = .ok (.iload_n 1, 1) := by decide +kernel
theorem dX0_hasRider_1 : decode cX0_hasRider 1 = .ok (.ifCond .lt 21, 3) := by decide +kernel
theorem dX0_hasRider_4 : decode cX0_hasRider 4 = .ok (.iload_n 1, 1) := by decide +kernel
theorem dX0_hasRider_5 : decode cX0_hasRider 5 = .ok (.aload_n 0, 1) := by decide +kernel
theorem dX0_hasRider_6 : decode cX0_hasRider 6 = .ok (.getfield 32, 3) := by decide +kernel
theorem dX0_hasRider_9 : decode cX0_hasRider 9 = .ok (.if_icmp .ge 13, 3) := by decide +kernel
theorem dX0_hasRider_12 : decode cX0_hasRider 12 = .ok (.iload_n 1, 1) := by decide +kernel
theorem dX0_hasRider_13 : decode cX0_hasRider 13 = .ok (.bipush 6, 2) := by decide +kernel
theorem dX0_hasRider_15 : decode cX0_hasRider 15 = .ok (.if_icmp .ge 7, 3) := by decide +kernel
theorem dX0_hasRider_18 : decode cX0_hasRider 18 = .ok (.iconst 1, 1) := by decide +kernel
theorem dX0_hasRider_19 : decode cX0_hasRider 19 = .ok (.goto 4, 3) := by decide +kernel
theorem dX0_hasRider_22 : decode cX0_hasRider 22 = .ok (.iconst 0, 1) := by decide +kernel
theorem dX0_hasRider_23 : decode cX0_hasRider 23 = .ok (.ireturn, 1) := by decide +kernel
theorem dX0_changeRoad_0 : decode cX0_changeRoad 0 = .ok (.iload_n 1, 1) := by decide +kernel
theorem dX0_changeRoad_1 : decode cX0_changeRoad 1 = .ok (.invokestatic 39, 3) := by decide +kernel
theorem dX0_changeRoad_4 : decode cX0_changeRoad 4 = .ok (.ifCond .eq 15, 3) := by decide +kernel
theorem dX0_changeRoad_7 : decode cX0_changeRoad 7 = .ok (.iload_n 2, 1) := by decide +kernel
theorem dX0_changeRoad_8 : decode cX0_changeRoad 8 = .ok (.invokestatic 39, 3) := by decide +kernel
theorem dX0_changeRoad_11 : decode cX0_changeRoad 11 = .ok (.ifCond .eq 8, 3) := by decide +kernel
theorem dX0_changeRoad_14 : decode cX0_changeRoad 14 = .ok (.iload_n 1, 1) := by decide +kernel
theorem dX0_changeRoad_15 : decode cX0_changeRoad 15 = .ok (.iload_n 2, 1) := by decide +kernel
theorem dX0_changeRoad_16 : decode cX0_changeRoad 16 = .ok (.if_icmp .ne 5, 3) := by decide +kernel
theorem dX0_changeRoad_19 : decode cX0_changeRoad 19 = .ok (.iconst 0, 1) := by decide +kernel
theorem dX0_changeRoad_20 : decode cX0_changeRoad 20 = .ok (.ireturn, 1) := by decide +kernel
theorem dX0_changeRoad_21 : decode cX0_changeRoad 21 = .ok (.aload_n 0, 1) := by decide +kernel
theorem dX0_changeRoad_22 : decode cX0_changeRoad 22 = .ok (.getfield 12, 3) := by decide +kernel
theorem dX0_changeRoad_25 : decode cX0_changeRoad 25 = .ok (.iload_n 1, 1) := by decide +kernel
theorem dX0_changeRoad_26 : decode cX0_changeRoad 26 = .ok (.iload_n 2, 1) := by decide +kernel
theorem dX0_changeRoad_27 : decode cX0_changeRoad 27 = .ok (.invokevirtual 43, 3) := by decide +kernel
theorem dX0_changeRoad_30 : decode cX0_changeRoad 30 = .ok (.iconst 1, 1) := by decide +kernel
theorem dX0_changeRoad_31 : decode cX0_changeRoad 31 = .ok (.ireturn, 1) := by decide +kernel
theorem dX0_addRider_0 : decode cX0_addRider 0 = .ok (.aload_n 0, 1) := by decide +kernel
theorem dX0_addRider_1 : decode cX0_addRider 1 = .ok (.getfield 32, 3) := by decide +kernel
theorem dX0_addRider_4 : decode cX0_addRider 4 = .ok (.bipush 6, 2) := by decide +kernel
theorem dX0_addRider_6 : decode cX0_addRider 6 = .ok (.if_icmp .ge 26, 3) := by decide +kernel
theorem dX0_addRider_9 : decode cX0_addRider 9 = .ok (.iload_n 3, 1) := by decide +kernel
theorem dX0_addRider_10 : decode cX0_addRider 10 = .ok (.invokestatic 39, 3) := by decide +kernel
theorem dX0_addRider_13 : decode cX0_addRider 13 = .ok (.ifCond .eq 19, 3) := by decide +kernel
theorem dX0_addRider_16 : decode cX0_addRider 16 = .ok (.iload 4, 2) := by decide +kernel
theorem dX0_addRider_18 : decode cX0_addRider 18 = .ok (.invokestatic 39, 3) := by decide +kernel
theorem dX0_addRider_21 : decode cX0_addRider 21 = .ok (.ifCond .eq 11, 3) := by decide +kernel
theorem dX0_addRider_24 : decode cX0_addRider 24 = .ok (.iload 5, 2) := by decide +kernel
theorem dX0_addRider_26 : decode cX0_addRider 26 = .ok (.invokestatic 39, 3) := by decide +kernel
theorem dX0_addRider_29 : decode cX0_addRider 29 = .ok (.ifCond .ne 5, 3) := by decide +kernel
theorem dX0_addRider_32 : decode cX0_addRider 32 = .ok (.iconst 0, 1) := by decide +kernel
theorem dX0_addRider_33 : decode cX0_addRider 33 = .ok (.ireturn, 1) := by decide +kernel
theorem dX0_addRider_34 : decode cX0_addRider 34 = .ok (.aload_n 0, 1) := by decide +kernel
theorem dX0_addRider_35 : decode cX0_addRider 35 = .ok (.getfield 20, 3) := by decide +kernel
theorem dX0_addRider_38 : decode cX0_addRider 38 = .ok (.aload_n 0, 1) := by decide +kernel
theorem dX0_addRider_39 : decode cX0_addRider 39 = .ok (.getfield 32, 3) := by decide +kernel
theorem dX0_addRider_42 : decode cX0_addRider 42 = .ok (.aaload, 1) := by decide +kernel
theorem dX0_addRider_43 : decode cX0_addRider 43 = .ok (.astore 6, 2) := by decide +kernel
theorem dX0_addRider_45 : decode cX0_addRider 45 = .ok (.aload 6, 2) := by decide +kernel
theorem dX0_addRider_47 : decode cX0_addRider 47 = .ok (.iload_n 1, 1) := by decide +kernel
theorem dX0_addRider_48 : decode cX0_addRider 48 = .ok (.putfield 47, 3) := by decide +kernel
theorem dX0_addRider_51 : decode cX0_addRider 51 = .ok (.aload 6, 2) := by decide +kernel
theorem dX0_addRider_53 : decode cX0_addRider 53 = .ok (.iload_n 2, 1) := by decide +kernel
theorem dX0_addRider_54 : decode cX0_addRider 54 = .ok (.putfield 50, 3) := by decide +kernel
theorem dX0_addRider_57 : decode cX0_addRider 57 = .ok (.aload 6, 2) := by decide +kernel
theorem dX0_addRider_59 : decode cX0_addRider 59 = .ok (.iload_n 3, 1) := by decide +kernel
theorem dX0_addRider_60 : decode cX0_addRider 60 = .ok (.putfield 53, 3) := by decide +kernel
theorem dX0_addRider_63 : decode cX0_addRider 63 = .ok (.aload 6, 2) := by decide +kernel
theorem dX0_addRider_65 : decode cX0_addRider 65 = .ok (.iload 4, 2) := by decide +kernel
theorem dX0_addRider_67 : decode cX0_addRider 67 = .ok (.putfield 56, 3) := by decide +kernel
theorem dX0_addRider_70 : decode cX0_addRider 70 = .ok (.aload 6, 2) := by decide +kernel
theorem dX0_addRider_72 : decode cX0_addRider 72 = .ok (.iload 5, 2) := by decide +kernel
theorem dX0_addRider_74 : decode cX0_addRider 74 = .ok (.putfield 59, 3) := by decide +kernel
theorem dX0_addRider_77 : decode cX0_addRider 77 = .ok (.aload 6, 2) := by decide +kernel
theorem dX0_addRider_79 : decode cX0_addRider 79 = .ok (.invokevirtual 62, 3) := by decide +kernel
theorem dX0_addRider_82 : decode cX0_addRider 82 = .ok (.aload_n 0, 1) := by decide +kernel
theorem dX0_addRider_83 : decode cX0_addRider 83 = .ok (.dup, 1) := by decide +kernel
theorem dX0_addRider_84 : decode cX0_addRider 84 = .ok (.getfield 32, 3) := by decide +kernel
theorem dX0_addRider_87 : decode cX0_addRider 87 = .ok (.iconst 1, 1) := by decide +kernel
theorem dX0_addRider_88 : decode cX0_addRider 88 = .ok (.iadd, 1) := by decide +kernel
theorem dX0_addRider_89 : decode cX0_addRider 89 = .ok (.putfield 32, 3) := by decide +kernel
theorem dX0_addRider_92 : decode cX0_addRider 92 = .ok (.iconst 1, 1) := by decide +kernel
theorem dX0_addRider_93 : decode cX0_addRider 93 = .ok (.ireturn, 1) := by decide +kernel
theorem dX0_shoeAnew_0 : decode cX0_shoeAnew 0 = .ok (.aload_n 0, 1) := by decide +kernel
theorem dX0_shoeAnew_1 : decode cX0_shoeAnew 1 = .ok (.iload_n 1, 1) := by decide +kernel
theorem dX0_shoeAnew_2 : decode cX0_shoeAnew 2 = .ok (.invokevirtual 65, 3) := by decide +kernel
theorem dX0_shoeAnew_5 : decode cX0_shoeAnew 5 = .ok (.ifCond .ne 5, 3) := by decide +kernel
theorem dX0_shoeAnew_8 : decode cX0_shoeAnew 8 = .ok (.iconst 0, 1) := by decide +kernel
theorem dX0_shoeAnew_9 : decode cX0_shoeAnew 9 = .ok (.ireturn, 1) := by decide +kernel
theorem dX0_shoeAnew_10 : decode cX0_shoeAnew 10 = .ok (.aload_n 0, 1) := by decide +kernel
theorem dX0_shoeAnew_11 : decode cX0_shoeAnew 11 = .ok (.getfield 20, 3) := by decide +kernel
theorem dX0_shoeAnew_14 : decode cX0_shoeAnew 14 = .ok (.iload_n 1, 1) := by decide +kernel
theorem dX0_shoeAnew_15 : decode cX0_shoeAnew 15 = .ok (.aaload, 1) := by decide +kernel
theorem dX0_shoeAnew_16 : decode cX0_shoeAnew 16 = .ok (.invokevirtual 62, 3) := by decide +kernel
theorem dX0_shoeAnew_19 : decode cX0_shoeAnew 19 = .ok (.iconst 1, 1) := by decide +kernel
theorem dX0_shoeAnew_20 : decode cX0_shoeAnew 20 = .ok (.ireturn, 1) := by decide +kernel
theorem dX0_setGoal_0 : decode cX0_setGoal 0 = .ok (.aload_n 0, 1) := by decide +kernel
theorem dX0_setGoal_1 : decode cX0_setGoal 1 = .ok (.iload_n 1, 1) := by decide +kernel
theorem dX0_setGoal_2 : decode cX0_setGoal 2 = .ok (.invokevirtual 65, 3) := by decide +kernel
theorem dX0_setGoal_5 : decode cX0_setGoal 5 = .ok (.ifCond .eq 10, 3) := by decide +kernel
theorem dX0_setGoal_8 : decode cX0_setGoal 8 = .ok (.iload_n 2, 1) := by decide +kernel
theorem dX0_setGoal_9 : decode cX0_setGoal 9 = .ok (.invokestatic 39, 3) := by decide +kernel
theorem dX0_setGoal_12 : decode cX0_setGoal 12 = .ok (.ifCond .ne 5, 3) := by decide +kernel
theorem dX0_setGoal_15 : decode cX0_setGoal 15 = .ok (.iconst 0, 1) := by decide +kernel
theorem dX0_setGoal_16 : decode cX0_setGoal 16 = .ok (.ireturn, 1) := by decide +kernel
theorem dX0_setGoal_17 : decode cX0_setGoal 17 = .ok (.aload_n 0, 1) := by decide +kernel
theorem dX0_setGoal_18 : decode cX0_setGoal 18 = .ok (.getfield 20, 3) := by decide +kernel
theorem dX0_setGoal_21 : decode cX0_setGoal 21 = .ok (.iload_n 1, 1) := by decide +kernel
theorem dX0_setGoal_22 : decode cX0_setGoal 22 = .ok (.aaload, 1) := by decide +kernel
theorem dX0_setGoal_23 : decode cX0_setGoal 23 = .ok (.iload_n 2, 1) := by decide +kernel
theorem dX0_setGoal_24 : decode cX0_setGoal 24 = .ok (.putfield 53, 3) := by decide +kernel
theorem dX0_setGoal_27 : decode cX0_setGoal 27 = .ok (.iconst 1, 1) := by decide +kernel
theorem dX0_setGoal_28 : decode cX0_setGoal 28 = .ok (.ireturn, 1) := by decide +kernel
theorem dX0_setAt_0 : decode cX0_setAt 0 = .ok (.aload_n 0, 1) := by decide +kernel
theorem dX0_setAt_1 : decode cX0_setAt 1 = .ok (.iload_n 1, 1) := by decide +kernel
theorem dX0_setAt_2 : decode cX0_setAt 2 = .ok (.invokevirtual 65, 3) := by decide +kernel
theorem dX0_setAt_5 : decode cX0_setAt 5 = .ok (.ifCond .eq 10, 3) := by decide +kernel
theorem dX0_setAt_8 : decode cX0_setAt 8 = .ok (.iload_n 2, 1) := by decide +kernel
theorem dX0_setAt_9 : decode cX0_setAt 9 = .ok (.invokestatic 39, 3) := by decide +kernel
theorem dX0_setAt_12 : decode cX0_setAt 12 = .ok (.ifCond .ne 5, 3) := by decide +kernel
theorem dX0_setAt_15 : decode cX0_setAt 15 = .ok (.iconst 0, 1) := by decide +kernel
theorem dX0_setAt_16 : decode cX0_setAt 16 = .ok (.ireturn, 1) := by decide +kernel
theorem dX0_setAt_17 : decode cX0_setAt 17 = .ok (.aload_n 0, 1) := by decide +kernel
theorem dX0_setAt_18 : decode cX0_setAt 18 = .ok (.getfield 20, 3) := by decide +kernel
theorem dX0_setAt_21 : decode cX0_setAt 21 = .ok (.iload_n 1, 1) := by decide +kernel
theorem dX0_setAt_22 : decode cX0_setAt 22 = .ok (.aaload, 1) := by decide +kernel
theorem dX0_setAt_23 : decode cX0_setAt 23 = .ok (.iload_n 2, 1) := by decide +kernel
theorem dX0_setAt_24 : decode cX0_setAt 24 = .ok (.putfield 59, 3) := by decide +kernel
theorem dX0_setAt_27 : decode cX0_setAt 27 = .ok (.iconst 1, 1) := by decide +kernel
theorem dX0_setAt_28 : decode cX0_setAt 28 = .ok (.ireturn, 1) := by decide +kernel
theorem dX0_passDays_0 : decode cX0_passDays 0 = .ok (.iload_n 1, 1) := by decide +kernel
theorem dX0_passDays_1 : decode cX0_passDays 1 = .ok (.iconst 1, 1) := by decide +kernel
theorem dX0_passDays_2 : decode cX0_passDays 2 = .ok (.if_icmp .lt 21, 3) := by decide +kernel
theorem dX0_passDays_5 : decode cX0_passDays 5 = .ok (.iload_n 1, 1) := by decide +kernel
theorem dX0_passDays_6 : decode cX0_passDays 6 = .ok (.bipush 60, 2) := by decide +kernel
theorem dX0_passDays_8 : decode cX0_passDays 8 = .ok (.if_icmp .gt 15, 3) := by decide +kernel
theorem dX0_passDays_11 : decode cX0_passDays 11 = .ok (.aload_n 0, 1) := by decide +kernel
theorem dX0_passDays_12 : decode cX0_passDays 12 = .ok (.getfield 36, 3) := by decide +kernel
theorem dX0_passDays_15 : decode cX0_passDays 15 = .ok (.iload_n 1, 1) := by decide +kernel
theorem dX0_passDays_16 : decode cX0_passDays 16 = .ok (.iadd, 1) := by decide +kernel
theorem dX0_passDays_17 : decode cX0_passDays 17 = .ok (.sipush 999, 3) := by decide +kernel
theorem dX0_passDays_20 : decode cX0_passDays 20 = .ok (.if_icmp .le 5, 3) := by decide +kernel
theorem dX0_passDays_23 : decode cX0_passDays 23 = .ok (.iconst 0, 1) := by decide +kernel
theorem dX0_passDays_24 : decode cX0_passDays 24 = .ok (.ireturn, 1) := by decide +kernel
theorem dX0_passDays_25 : decode cX0_passDays 25 = .ok (.aload_n 0, 1) := by decide +kernel
theorem dX0_passDays_26 : decode cX0_passDays 26 = .ok (.dup, 1) := by decide +kernel
theorem dX0_passDays_27 : decode cX0_passDays 27 = .ok (.getfield 36, 3) := by decide +kernel
theorem dX0_passDays_30 : decode cX0_passDays 30 = .ok (.iload_n 1, 1) := by decide +kernel
theorem dX0_passDays_31 : decode cX0_passDays 31 = .ok (.iadd, 1) := by decide +kernel
theorem dX0_passDays_32 : decode cX0_passDays 32 = .ok (.putfield 36, 3) := by decide +kernel
theorem dX0_passDays_35 : decode cX0_passDays 35 = .ok (.iconst 0, 1) := by decide +kernel
theorem dX0_passDays_36 : decode cX0_passDays 36 = .ok (.istore_n 2, 1) := by decide +kernel
theorem dX0_passDays_37 : decode cX0_passDays 37 = .ok (.iload_n 2, 1) := by decide +kernel
theorem dX0_passDays_38 : decode cX0_passDays 38 = .ok (.aload_n 0, 1) := by decide +kernel
theorem dX0_passDays_39 : decode cX0_passDays 39 = .ok (.getfield 32, 3) := by decide +kernel
theorem dX0_passDays_42 : decode cX0_passDays 42 = .ok (.if_icmp .ge 35, 3) := by decide +kernel
theorem dX0_passDays_45 : decode cX0_passDays 45 = .ok (.iconst 0, 1) := by decide +kernel
theorem dX0_passDays_46 : decode cX0_passDays 46 = .ok (.istore_n 3, 1) := by decide +kernel
theorem dX0_passDays_47 : decode cX0_passDays 47 = .ok (.iload_n 3, 1) := by decide +kernel
theorem dX0_passDays_48 : decode cX0_passDays 48 = .ok (.iload_n 1, 1) := by decide +kernel
theorem dX0_passDays_49 : decode cX0_passDays 49 = .ok (.if_icmp .ge 22, 3) := by decide +kernel
theorem dX0_passDays_52 : decode cX0_passDays 52 = .ok (.aload_n 0, 1) := by decide +kernel
theorem dX0_passDays_53 : decode cX0_passDays 53 = .ok (.getfield 20, 3) := by decide +kernel
theorem dX0_passDays_56 : decode cX0_passDays 56 = .ok (.iload_n 2, 1) := by decide +kernel
theorem dX0_passDays_57 : decode cX0_passDays 57 = .ok (.aaload, 1) := by decide +kernel
theorem dX0_passDays_58 : decode cX0_passDays 58 = .ok (.aload_n 0, 1) := by decide +kernel
theorem dX0_passDays_59 : decode cX0_passDays 59 = .ok (.getfield 12, 3) := by decide +kernel
theorem dX0_passDays_62 : decode cX0_passDays 62 = .ok (.invokevirtual 68, 3) := by decide +kernel
theorem dX0_passDays_65 : decode cX0_passDays 65 = .ok (.iinc 3 1, 3) := by decide +kernel
theorem dX0_passDays_68 : decode cX0_passDays 68 = .ok (.goto (-21), 3) := by decide +kernel
theorem dX0_passDays_71 : decode cX0_passDays 71 = .ok (.iinc 2 1, 3) := by decide +kernel
theorem dX0_passDays_74 : decode cX0_passDays 74 = .ok (.goto (-37), 3) := by decide +kernel
theorem dX0_passDays_77 : decode cX0_passDays 77 = .ok (.iconst 1, 1) := by decide +kernel
theorem dX0_passDays_78 : decode cX0_passDays 78 = .ok (.ireturn, 1) := by decide +kernel
theorem dX0_arrivedBits_0 : decode cX0_arrivedBits 0 = .ok (.iconst 0, 1) := by decide +kernel
theorem dX0_arrivedBits_1 : decode cX0_arrivedBits 1 = .ok (.istore_n 1, 1) := by decide +kernel
theorem dX0_arrivedBits_2 : decode cX0_arrivedBits 2 = .ok (.iconst 0, 1) := by decide +kernel
theorem dX0_arrivedBits_3 : decode cX0_arrivedBits 3 = .ok (.istore_n 2, 1) := by decide +kernel
theorem dX0_arrivedBits_4 : decode cX0_arrivedBits 4 = .ok (.iload_n 2, 1) := by decide +kernel
theorem dX0_arrivedBits_5 : decode cX0_arrivedBits 5 = .ok (.aload_n 0, 1) := by decide +kernel
theorem dX0_arrivedBits_6 : decode cX0_arrivedBits 6 = .ok (.getfield 32, 3) := by decide +kernel
theorem dX0_arrivedBits_9 : decode cX0_arrivedBits 9 = .ok (.if_icmp .ge 27, 3) := by decide +kernel
theorem dX0_arrivedBits_12 : decode cX0_arrivedBits 12 = .ok (.aload_n 0, 1) := by decide +kernel
theorem dX0_arrivedBits_13 : decode cX0_arrivedBits 13 = .ok (.getfield 20, 3) := by decide +kernel
theorem dX0_arrivedBits_16 : decode cX0_arrivedBits 16 = .ok (.iload_n 2, 1) := by decide +kernel
theorem dX0_arrivedBits_17 : decode cX0_arrivedBits 17 = .ok (.aaload, 1) := by decide +kernel
theorem dX0_arrivedBits_18 : decode cX0_arrivedBits 18 = .ok (.invokevirtual 71, 3) := by decide +kernel
theorem dX0_arrivedBits_21 : decode cX0_arrivedBits 21 = .ok (.ifCond .eq 9, 3) := by decide +kernel
theorem dX0_arrivedBits_24 : decode cX0_arrivedBits 24 = .ok (.iload_n 1, 1) := by decide +kernel
theorem dX0_arrivedBits_25 : decode cX0_arrivedBits 25 = .ok (.iconst 1, 1) := by decide +kernel
theorem dX0_arrivedBits_26 : decode cX0_arrivedBits 26 = .ok (.iload_n 2, 1) := by decide +kernel
theorem dX0_arrivedBits_27 : decode cX0_arrivedBits 27 = .ok (.ishl, 1) := by decide +kernel
theorem dX0_arrivedBits_28 : decode cX0_arrivedBits 28 = .ok (.ior, 1) := by decide +kernel
theorem dX0_arrivedBits_29 : decode cX0_arrivedBits 29 = .ok (.istore_n 1, 1) := by decide +kernel
theorem dX0_arrivedBits_30 : decode cX0_arrivedBits 30 = .ok (.iinc 2 1, 3) := by decide +kernel
theorem dX0_arrivedBits_33 : decode cX0_arrivedBits 33 = .ok (.goto (-29), 3) := by decide +kernel
theorem dX0_arrivedBits_36 : decode cX0_arrivedBits 36 = .ok (.iload_n 1, 1) := by decide +kernel
theorem dX0_arrivedBits_37 : decode cX0_arrivedBits 37 = .ok (.ireturn, 1) := by decide +kernel
theorem dX0_honestBits_0 : decode cX0_honestBits 0 = .ok (.iconst 0, 1) := by decide +kernel
theorem dX0_honestBits_1 : decode cX0_honestBits 1 = .ok (.istore_n 1, 1) := by decide +kernel
theorem dX0_honestBits_2 : decode cX0_honestBits 2 = .ok (.iconst 0, 1) := by decide +kernel
theorem dX0_honestBits_3 : decode cX0_honestBits 3 = .ok (.istore_n 2, 1) := by decide +kernel
theorem dX0_honestBits_4 : decode cX0_honestBits 4 = .ok (.iload_n 2, 1) := by decide +kernel
theorem dX0_honestBits_5 : decode cX0_honestBits 5 = .ok (.aload_n 0, 1) := by decide +kernel
theorem dX0_honestBits_6 : decode cX0_honestBits 6 = .ok (.getfield 32, 3) := by decide +kernel
theorem dX0_honestBits_9 : decode cX0_honestBits 9 = .ok (.if_icmp .ge 36, 3) := by decide +kernel
theorem dX0_honestBits_12 : decode cX0_honestBits 12 = .ok (.aload_n 0, 1) := by decide +kernel
theorem dX0_honestBits_13 : decode cX0_honestBits 13 = .ok (.getfield 20, 3) := by decide +kernel
theorem dX0_honestBits_16 : decode cX0_honestBits 16 = .ok (.iload_n 2, 1) := by decide +kernel
theorem dX0_honestBits_17 : decode cX0_honestBits 17 = .ok (.aaload, 1) := by decide +kernel
theorem dX0_honestBits_18 : decode cX0_honestBits 18 = .ok (.getfield 53, 3) := by decide +kernel
theorem dX0_honestBits_21 : decode cX0_honestBits 21 = .ok (.aload_n 0, 1) := by decide +kernel
theorem dX0_honestBits_22 : decode cX0_honestBits 22 = .ok (.getfield 20, 3) := by decide +kernel
theorem dX0_honestBits_25 : decode cX0_honestBits 25 = .ok (.iload_n 2, 1) := by decide +kernel
theorem dX0_honestBits_26 : decode cX0_honestBits 26 = .ok (.aaload, 1) := by decide +kernel
theorem dX0_honestBits_27 : decode cX0_honestBits 27 = .ok (.getfield 56, 3) := by decide +kernel
theorem dX0_honestBits_30 : decode cX0_honestBits 30 = .ok (.if_icmp .ne 9, 3) := by decide +kernel
theorem dX0_honestBits_33 : decode cX0_honestBits 33 = .ok (.iload_n 1, 1) := by decide +kernel
theorem dX0_honestBits_34 : decode cX0_honestBits 34 = .ok (.iconst 1, 1) := by decide +kernel
theorem dX0_honestBits_35 : decode cX0_honestBits 35 = .ok (.iload_n 2, 1) := by decide +kernel
theorem dX0_honestBits_36 : decode cX0_honestBits 36 = .ok (.ishl, 1) := by decide +kernel
theorem dX0_honestBits_37 : decode cX0_honestBits 37 = .ok (.ior, 1) := by decide +kernel
theorem dX0_honestBits_38 : decode cX0_honestBits 38 = .ok (.istore_n 1, 1) := by decide +kernel
theorem dX0_honestBits_39 : decode cX0_honestBits 39 = .ok (.iinc 2 1, 3) := by decide +kernel
theorem dX0_honestBits_42 : decode cX0_honestBits 42 = .ok (.goto (-38), 3) := by decide +kernel
theorem dX0_honestBits_45 : decode cX0_honestBits 45 = .ok (.iload_n 1, 1) := by decide +kernel
theorem dX0_honestBits_46 : decode cX0_honestBits 46 = .ok (.ireturn, 1) := by decide +kernel
theorem dX0_lostBits_0 : decode cX0_lostBits 0 = .ok (.iconst 0, 1) := by decide +kernel
theorem dX0_lostBits_1 : decode cX0_lostBits 1 = .ok (.istore_n 1, 1) := by decide +kernel
theorem dX0_lostBits_2 : decode cX0_lostBits 2 = .ok (.iconst 0, 1) := by decide +kernel
theorem dX0_lostBits_3 : decode cX0_lostBits 3 = .ok (.istore_n 2, 1) := by decide +kernel
theorem dX0_lostBits_4 : decode cX0_lostBits 4 = .ok (.iload_n 2, 1) := by decide +kernel
theorem dX0_lostBits_5 : decode cX0_lostBits 5 = .ok (.aload_n 0, 1) := by decide +kernel
theorem dX0_lostBits_6 : decode cX0_lostBits 6 = .ok (.getfield 32, 3) := by decide +kernel
theorem dX0_lostBits_9 : decode cX0_lostBits 9 = .ok (.if_icmp .ge 33, 3) := by decide +kernel
theorem dX0_lostBits_12 : decode cX0_lostBits 12 = .ok (.aload_n 0, 1) := by decide +kernel
theorem dX0_lostBits_13 : decode cX0_lostBits 13 = .ok (.getfield 20, 3) := by decide +kernel
theorem dX0_lostBits_16 : decode cX0_lostBits 16 = .ok (.iload_n 2, 1) := by decide +kernel
theorem dX0_lostBits_17 : decode cX0_lostBits 17 = .ok (.aaload, 1) := by decide +kernel
theorem dX0_lostBits_18 : decode cX0_lostBits 18 = .ok (.aload_n 0, 1) := by decide +kernel
theorem dX0_lostBits_19 : decode cX0_lostBits 19 = .ok (.getfield 12, 3) := by decide +kernel
theorem dX0_lostBits_22 : decode cX0_lostBits 22 = .ok (.invokevirtual 75, 3) := by decide +kernel
theorem dX0_lostBits_25 : decode cX0_lostBits 25 = .ok (.bipush 9, 2) := by decide +kernel
theorem dX0_lostBits_27 : decode cX0_lostBits 27 = .ok (.if_icmp .ne 9, 3) := by decide +kernel
theorem dX0_lostBits_30 : decode cX0_lostBits 30 = .ok (.iload_n 1, 1) := by decide +kernel
theorem dX0_lostBits_31 : decode cX0_lostBits 31 = .ok (.iconst 1, 1) := by decide +kernel
theorem dX0_lostBits_32 : decode cX0_lostBits 32 = .ok (.iload_n 2, 1) := by decide +kernel
theorem dX0_lostBits_33 : decode cX0_lostBits 33 = .ok (.ishl, 1) := by decide +kernel
theorem dX0_lostBits_34 : decode cX0_lostBits 34 = .ok (.ior, 1) := by decide +kernel
theorem dX0_lostBits_35 : decode cX0_lostBits 35 = .ok (.istore_n 1, 1) := by decide +kernel
theorem dX0_lostBits_36 : decode cX0_lostBits 36 = .ok (.iinc 2 1, 3) := by decide +kernel
theorem dX0_lostBits_39 : decode cX0_lostBits 39 = .ok (.goto (-35), 3) := by decide +kernel
theorem dX0_lostBits_42 : decode cX0_lostBits 42 = .ok (.iload_n 1, 1) := by decide +kernel
theorem dX0_lostBits_43 : decode cX0_lostBits 43 = .ok (.ireturn, 1) := by decide +kernel
theorem dX0_allShoes_0 : decode cX0_allShoes 0 = .ok (.iconst 0, 1) := by decide +kernel
theorem dX0_allShoes_1 : decode cX0_allShoes 1 = .ok (.istore_n 1, 1) := by decide +kernel
theorem dX0_allShoes_2 : decode cX0_allShoes 2 = .ok (.iconst 0, 1) := by decide +kernel
theorem dX0_allShoes_3 : decode cX0_allShoes 3 = .ok (.istore_n 2, 1) := by decide +kernel
theorem dX0_allShoes_4 : decode cX0_allShoes 4 = .ok (.iload_n 2, 1) := by decide +kernel
theorem dX0_allShoes_5 : decode cX0_allShoes 5 = .ok (.aload_n 0, 1) := by decide +kernel
theorem dX0_allShoes_6 : decode cX0_allShoes 6 = .ok (.getfield 32, 3) := by decide +kernel
theorem dX0_allShoes_9 : decode cX0_allShoes 9 = .ok (.if_icmp .ge 21, 3) := by decide +kernel
theorem dX0_allShoes_12 : decode cX0_allShoes 12 = .ok (.iload_n 1, 1) := by decide +kernel
theorem dX0_allShoes_13 : decode cX0_allShoes 13 = .ok (.aload_n 0, 1) := by decide +kernel
theorem dX0_allShoes_14 : decode cX0_allShoes 14 = .ok (.getfield 20, 3) := by decide +kernel
theorem dX0_allShoes_17 : decode cX0_allShoes 17 = .ok (.iload_n 2, 1) := by decide +kernel
theorem dX0_allShoes_18 : decode cX0_allShoes 18 = .ok (.aaload, 1) := by decide +kernel
theorem dX0_allShoes_19 : decode cX0_allShoes 19 = .ok (.getfield 79, 3) := by decide +kernel
theorem dX0_allShoes_22 : decode cX0_allShoes 22 = .ok (.iadd, 1) := by decide +kernel
theorem dX0_allShoes_23 : decode cX0_allShoes 23 = .ok (.istore_n 1, 1) := by decide +kernel
theorem dX0_allShoes_24 : decode cX0_allShoes 24 = .ok (.iinc 2 1, 3) := by decide +kernel
theorem dX0_allShoes_27 : decode cX0_allShoes 27 = .ok (.goto (-23), 3) := by decide +kernel
theorem dX0_allShoes_30 : decode cX0_allShoes 30 = .ok (.iload_n 1, 1) := by decide +kernel
theorem dX0_allShoes_31 : decode cX0_allShoes 31 = .ok (.ireturn, 1) := by decide +kernel
theorem dX0_allWorn_0 : decode cX0_allWorn 0 = .ok (.iconst 0, 1) := by decide +kernel
theorem dX0_allWorn_1 : decode cX0_allWorn 1 = .ok (.istore_n 1, 1) := by decide +kernel
theorem dX0_allWorn_2 : decode cX0_allWorn 2 = .ok (.iconst 0, 1) := by decide +kernel
theorem dX0_allWorn_3 : decode cX0_allWorn 3 = .ok (.istore_n 2, 1) := by decide +kernel
theorem dX0_allWorn_4 : decode cX0_allWorn 4 = .ok (.iload_n 2, 1) := by decide +kernel
theorem dX0_allWorn_5 : decode cX0_allWorn 5 = .ok (.aload_n 0, 1) := by decide +kernel
theorem dX0_allWorn_6 : decode cX0_allWorn 6 = .ok (.getfield 32, 3) := by decide +kernel
theorem dX0_allWorn_9 : decode cX0_allWorn 9 = .ok (.if_icmp .ge 21, 3) := by decide +kernel
theorem dX0_allWorn_12 : decode cX0_allWorn 12 = .ok (.iload_n 1, 1) := by decide +kernel
theorem dX0_allWorn_13 : decode cX0_allWorn 13 = .ok (.aload_n 0, 1) := by decide +kernel
theorem dX0_allWorn_14 : decode cX0_allWorn 14 = .ok (.getfield 20, 3) := by decide +kernel
theorem dX0_allWorn_17 : decode cX0_allWorn 17 = .ok (.iload_n 2, 1) := by decide +kernel
theorem dX0_allWorn_18 : decode cX0_allWorn 18 = .ok (.aaload, 1) := by decide +kernel
theorem dX0_allWorn_19 : decode cX0_allWorn 19 = .ok (.getfield 82, 3) := by decide +kernel
theorem dX0_allWorn_22 : decode cX0_allWorn 22 = .ok (.iadd, 1) := by decide +kernel
theorem dX0_allWorn_23 : decode cX0_allWorn 23 = .ok (.istore_n 1, 1) := by decide +kernel
theorem dX0_allWorn_24 : decode cX0_allWorn 24 = .ok (.iinc 2 1, 3) := by decide +kernel
theorem dX0_allWorn_27 : decode cX0_allWorn 27 = .ok (.goto (-23), 3) := by decide +kernel
theorem dX0_allWorn_30 : decode cX0_allWorn 30 = .ok (.iload_n 1, 1) := by decide +kernel
theorem dX0_allWorn_31 : decode cX0_allWorn 31 = .ok (.ireturn, 1) := by decide +kernel
theorem dJ6_bitCount_0f7a4_0 : decode cJ6_bitCount_0f7a4 0 = .ok (.iload_n 0, 1) := by decide +kernel
theorem dJ6_bitCount_0f7a4_1 : decode cJ6_bitCount_0f7a4 1 = .ok (.iload_n 0, 1) := by decide +kernel
theorem dJ6_bitCount_0f7a4_2 : decode cJ6_bitCount_0f7a4 2 = .ok (.iconst 1, 1) := by decide +kernel
theorem dJ6_bitCount_0f7a4_3 : decode cJ6_bitCount_0f7a4 3 = .ok (.iushr, 1) := by decide +kernel
theorem dJ6_bitCount_0f7a4_4 : decode cJ6_bitCount_0f7a4 4 = .ok (.ldc_w 265, 3) := by decide +kernel
theorem dJ6_bitCount_0f7a4_7 : decode cJ6_bitCount_0f7a4 7 = .ok (.iand, 1) := by decide +kernel
theorem dJ6_bitCount_0f7a4_8 : decode cJ6_bitCount_0f7a4 8 = .ok (.isub, 1) := by decide +kernel
theorem dJ6_bitCount_0f7a4_9 : decode cJ6_bitCount_0f7a4 9 = .ok (.istore_n 0, 1) := by decide +kernel
theorem dJ6_bitCount_0f7a4_10 : decode cJ6_bitCount_0f7a4 10 = .ok (.iload_n 0, 1) := by decide +kernel
theorem dJ6_bitCount_0f7a4_11 : decode cJ6_bitCount_0f7a4 11 = .ok (.ldc_w 266, 3) := by decide +kernel
theorem dJ6_bitCount_0f7a4_14 : decode cJ6_bitCount_0f7a4 14 = .ok (.iand, 1) := by decide +kernel
theorem dJ6_bitCount_0f7a4_15 : decode cJ6_bitCount_0f7a4 15 = .ok (.iload_n 0, 1) := by decide +kernel
theorem dJ6_bitCount_0f7a4_16 : decode cJ6_bitCount_0f7a4 16 = .ok (.iconst 2, 1) := by decide +kernel
theorem dJ6_bitCount_0f7a4_17 : decode cJ6_bitCount_0f7a4 17 = .ok (.iushr, 1) := by decide +kernel
theorem dJ6_bitCount_0f7a4_18 : decode cJ6_bitCount_0f7a4 18 = .ok (.ldc_w 266, 3) := by decide +kernel
theorem dJ6_bitCount_0f7a4_21 : decode cJ6_bitCount_0f7a4 21 = .ok (.iand, 1) := by decide +kernel
theorem dJ6_bitCount_0f7a4_22 : decode cJ6_bitCount_0f7a4 22 = .ok (.iadd, 1) := by decide +kernel
theorem dJ6_bitCount_0f7a4_23 : decode cJ6_bitCount_0f7a4 23 = .ok (.istore_n 0, 1) := by decide +kernel
theorem dJ6_bitCount_0f7a4_24 : decode cJ6_bitCount_0f7a4 24 = .ok (.iload_n 0, 1) := by decide +kernel
theorem dJ6_bitCount_0f7a4_25 : decode cJ6_bitCount_0f7a4 25 = .ok (.iload_n 0, 1) := by decide +kernel
theorem dJ6_bitCount_0f7a4_26 : decode cJ6_bitCount_0f7a4 26 = .ok (.iconst 4, 1) := by decide +kernel
theorem dJ6_bitCount_0f7a4_27 : decode cJ6_bitCount_0f7a4 27 = .ok (.iushr, 1) := by decide +kernel
theorem dJ6_bitCount_0f7a4_28 : decode cJ6_bitCount_0f7a4 28 = .ok (.iadd, 1) := by decide +kernel
theorem dJ6_bitCount_0f7a4_29 : decode cJ6_bitCount_0f7a4 29 = .ok (.ldc_w 267, 3) := by decide +kernel
theorem dJ6_bitCount_0f7a4_32 : decode cJ6_bitCount_0f7a4 32 = .ok (.iand, 1) := by decide +kernel
theorem dJ6_bitCount_0f7a4_33 : decode cJ6_bitCount_0f7a4 33 = .ok (.istore_n 0, 1) := by decide +kernel
theorem dJ6_bitCount_0f7a4_34 : decode cJ6_bitCount_0f7a4 34 = .ok (.iload_n 0, 1) := by decide +kernel
theorem dJ6_bitCount_0f7a4_35 : decode cJ6_bitCount_0f7a4 35 = .ok (.iload_n 0, 1) := by decide +kernel
theorem dJ6_bitCount_0f7a4_36 : decode cJ6_bitCount_0f7a4 36 = .ok (.bipush 8, 2) := by decide +kernel
theorem dJ6_bitCount_0f7a4_38 : decode cJ6_bitCount_0f7a4 38 = .ok (.iushr, 1) := by decide +kernel
theorem dJ6_bitCount_0f7a4_39 : decode cJ6_bitCount_0f7a4 39 = .ok (.iadd, 1) := by decide +kernel
theorem dJ6_bitCount_0f7a4_40 : decode cJ6_bitCount_0f7a4 40 = .ok (.istore_n 0, 1) := by decide +kernel
theorem dJ6_bitCount_0f7a4_41 : decode cJ6_bitCount_0f7a4 41 = .ok (.iload_n 0, 1) := by decide +kernel
theorem dJ6_bitCount_0f7a4_42 : decode cJ6_bitCount_0f7a4 42 = .ok (.iload_n 0, 1) := by decide +kernel
theorem dJ6_bitCount_0f7a4_43 : decode cJ6_bitCount_0f7a4 43 = .ok (.bipush 16, 2) := by decide +kernel
theorem dJ6_bitCount_0f7a4_45 : decode cJ6_bitCount_0f7a4 45 = .ok (.iushr, 1) := by decide +kernel
theorem dJ6_bitCount_0f7a4_46 : decode cJ6_bitCount_0f7a4 46 = .ok (.iadd, 1) := by decide +kernel
theorem dJ6_bitCount_0f7a4_47 : decode cJ6_bitCount_0f7a4 47 = .ok (.istore_n 0, 1) := by decide +kernel
theorem dJ6_bitCount_0f7a4_48 : decode cJ6_bitCount_0f7a4 48 = .ok (.iload_n 0, 1) := by decide +kernel
theorem dJ6_bitCount_0f7a4_49 : decode cJ6_bitCount_0f7a4 49 = .ok (.bipush 63, 2) := by decide +kernel
theorem dJ6_bitCount_0f7a4_51 : decode cJ6_bitCount_0f7a4 51 = .ok (.iand, 1) := by decide +kernel
theorem dJ6_bitCount_0f7a4_52 : decode cJ6_bitCount_0f7a4 52 = .ok (.ireturn, 1) := by decide +kernel
theorem dJ9_max_7cf53_0 : decode cJ9_max_7cf53 0 = .ok (.iload_n 0, 1) := by decide +kernel
theorem dJ9_max_7cf53_1 : decode cJ9_max_7cf53 1 = .ok (.iload_n 1, 1) := by decide +kernel
theorem dJ9_max_7cf53_2 : decode cJ9_max_7cf53 2 = .ok (.if_icmp .lt 7, 3) := by decide +kernel
theorem dJ9_max_7cf53_5 : decode cJ9_max_7cf53 5 = .ok (.iload_n 0, 1) := by decide +kernel
theorem dJ9_max_7cf53_6 : decode cJ9_max_7cf53 6 = .ok (.goto 4, 3) := by decide +kernel
theorem dJ9_max_7cf53_9 : decode cJ9_max_7cf53 9 = .ok (.iload_n 1, 1) := by decide +kernel
theorem dJ9_max_7cf53_10 : decode cJ9_max_7cf53 10 = .ok (.ireturn, 1) := by decide +kernel
theorem dJ9_min_7cf53_0 : decode cJ9_min_7cf53 0 = .ok (.iload_n 0, 1) := by decide +kernel
theorem dJ9_min_7cf53_1 : decode cJ9_min_7cf53 1 = .ok (.iload_n 1, 1) := by decide +kernel
theorem dJ9_min_7cf53_2 : decode cJ9_min_7cf53 2 = .ok (.if_icmp .gt 7, 3) := by decide +kernel
theorem dJ9_min_7cf53_5 : decode cJ9_min_7cf53 5 = .ok (.iload_n 0, 1) := by decide +kernel
theorem dJ9_min_7cf53_6 : decode cJ9_min_7cf53 6 = .ok (.goto 4, 3) := by decide +kernel
theorem dJ9_min_7cf53_9 : decode cJ9_min_7cf53 9 = .ok (.iload_n 1, 1) := by decide +kernel
theorem dJ9_min_7cf53_10 : decode cJ9_min_7cf53 10 = .ok (.ireturn, 1) := by decide +kernel
