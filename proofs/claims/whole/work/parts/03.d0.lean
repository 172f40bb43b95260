theorem dJ6_bitCount_0f7a4_0 : decode cJ6_bitCount_0f7a4 0 = .ok (.iload_n 0, 1) := by decide +kernel
theorem dJ6_bitCount_0f7a4_1 : decode cJ6_bitCount_0f7a4 1 = .ok (.iload_n 0, 1) := by decide +kernel
theorem dJ6_bitCount_0f7a4_2 : decode cJ6_bitCount_0f7a4 2 = .ok (.iconst 1, 1) := by decide +kernel
theorem dJ6_bitCount_0f7a4_3 : decode cJ6_bitCount_0f7a4 3 = .ok (.iushr, 1) := by decide +kernel
theorem dJ6_bitCount_0f7a4_4 : decode cJ6_bitCount_0f7a4 4 = .ok (.ldc_w 265, 3) := by decide +kernel
theorem dJ6_bitCount_0f7a4_7 : decode cJ6_bitCount_0f7a4 7 = .ok (.iand, 1) := by decide +kernel
theorem dJ6_bitCount_0f7a4_8 : decode cJ6_bitCount_0f7a4 8 = .ok (.isub, 1) := by decide +kernel
theorem dJ6_bitCount_0f7a4_9 : decode cJ6_bitCount_0f7a4 9 = .ok (.istore_n 0, 1) := by decide +kernel
theorem dJ6_bitCount_0f7a4_10 : decode cJ6_bitCount_0f7a4 10 = .ok (.iload_n 0, 1) := by decide +kernel
theorem dJ6_bitCount_0f7a4_11 : decode cJ6_bitCount_0f7a4 11 = .ok (.ldc_w 266, 3) := by decide +kernel
theorem dJ6_bitCount_0f7a4_14 : decode cJ6_bitCount_0f7a4 14 = .ok (.iand, 1) := by decide +kernel
theorem dJ6_bitCount_0f7a4_15 : decode cJ6_bitCount_0f7a4 15 = .ok (.iload_n 0, 1) := by decide +kernel
theorem dJ6_bitCount_0f7a4_16 : decode cJ6_bitCount_0f7a4 16 = .ok (.iconst 2, 1) := by decide +kernel
theorem dJ6_bitCount_0f7a4_17 : decode cJ6_bitCount_0f7a4 17 = .ok (.iushr, 1) := by decide +kernel
theorem dJ6_bitCount_0f7a4_18 : decode cJ6_bitCount_0f7a4 18 = .ok (.ldc_w 266, 3) := by decide +kernel
theorem dJ6_bitCount_0f7a4_21 : decode cJ6_bitCount_0f7a4 21 = .ok (.iand, 1) := by decide +kernel
theorem dJ6_bitCount_0f7a4_22 : decode cJ6_bitCount_0f7a4 22 = .ok (.iadd, 1) := by decide +kernel
theorem dJ6_bitCount_0f7a4_23 : decode cJ6_bitCount_0f7a4 23 = .ok (.istore_n 0, 1) := by decide +kernel
theorem dJ6_bitCount_0f7a4_24 : decode cJ6_bitCount_0f7a4 24 = .ok (.iload_n 0, 1) := by decide +kernel
theorem dJ6_bitCount_0f7a4_25 : decode cJ6_bitCount_0f7a4 25 = .ok (.iload_n 0, 1) := by decide +kernel
theorem dJ6_bitCount_0f7a4_26 : decode cJ6_bitCount_0f7a4 26 = .ok (.iconst 4, 1) := by decide +kernel
theorem dJ6_bitCount_0f7a4_27 : decode cJ6_bitCount_0f7a4 27 = .ok (.iushr, 1) := by decide +kernel
theorem dJ6_bitCount_0f7a4_28 : decode cJ6_bitCount_0f7a4 28 = .ok (.iadd, 1) := by decide +kernel
theorem dJ6_bitCount_0f7a4_29 : decode cJ6_bitCount_0f7a4 29 = .ok (.ldc_w 267, 3) := by decide +kernel
theorem dJ6_bitCount_0f7a4_32 : decode cJ6_bitCount_0f7a4 32 = .ok (.iand, 1) := by decide +kernel
theorem dJ6_bitCount_0f7a4_33 : decode cJ6_bitCount_0f7a4 33 = .ok (.istore_n 0, 1) := by decide +kernel
theorem dJ6_bitCount_0f7a4_34 : decode cJ6_bitCount_0f7a4 34 = .ok (.iload_n 0, 1) := by decide +kernel
theorem dJ6_bitCount_0f7a4_35 : decode cJ6_bitCount_0f7a4 35 = .ok (.iload_n 0, 1) := by decide +kernel
theorem dJ6_bitCount_0f7a4_36 : decode cJ6_bitCount_0f7a4 36 = .ok (.bipush 8, 2) := by decide +kernel
theorem dJ6_bitCount_0f7a4_38 : decode cJ6_bitCount_0f7a4 38 = .ok (.iushr, 1) := by decide +kernel
theorem dJ6_bitCount_0f7a4_39 : decode cJ6_bitCount_0f7a4 39 = .ok (.iadd, 1) := by decide +kernel
theorem dJ6_bitCount_0f7a4_40 : decode cJ6_bitCount_0f7a4 40 = .ok (.istore_n 0, 1) := by decide +kernel
theorem dJ6_bitCount_0f7a4_41 : decode cJ6_bitCount_0f7a4 41 = .ok (.iload_n 0, 1) := by decide +kernel
theorem dJ6_bitCount_0f7a4_42 : decode cJ6_bitCount_0f7a4 42 = .ok (.iload_n 0, 1) := by decide +kernel
theorem dJ6_bitCount_0f7a4_43 : decode cJ6_bitCount_0f7a4 43 = .ok (.bipush 16, 2) := by decide +kernel
theorem dJ6_bitCount_0f7a4_45 : decode cJ6_bitCount_0f7a4 45 = .ok (.iushr, 1) := by decide +kernel
theorem dJ6_bitCount_0f7a4_46 : decode cJ6_bitCount_0f7a4 46 = .ok (.iadd, 1) := by decide +kernel
theorem dJ6_bitCount_0f7a4_47 : decode cJ6_bitCount_0f7a4 47 = .ok (.istore_n 0, 1) := by decide +kernel
theorem dJ6_bitCount_0f7a4_48 : decode cJ6_bitCount_0f7a4 48 = .ok (.iload_n 0, 1) := by decide +kernel
theorem dJ6_bitCount_0f7a4_49 : decode cJ6_bitCount_0f7a4 49 = .ok (.bipush 63, 2) := by decide +kernel
theorem dJ6_bitCount_0f7a4_51 : decode cJ6_bitCount_0f7a4 51 = .ok (.iand, 1) := by decide +kernel
theorem dJ6_bitCount_0f7a4_52 : decode cJ6_bitCount_0f7a4 52 = .ok (.ireturn, 1) := by decide +kernel
theorem dJ9_max_7cf53_0 : decode cJ9_max_7cf53 0 = .ok (.iload_n 0, 1) := by decide +kernel
theorem dJ9_max_7cf53_1 : decode cJ9_max_7cf53 1 = .ok (.iload_n 1, 1) := by decide +kernel
theorem dJ9_max_7cf53_2 : decode cJ9_max_7cf53 2 = .ok (.if_icmp .lt 7, 3) := by decide +kernel
theorem dJ9_max_7cf53_5 : decode cJ9_max_7cf53 5 = .ok (.iload_n 0, 1) := by decide +kernel
theorem dJ9_max_7cf53_6 : decode cJ9_max_7cf53 6 = .ok (.goto 4, 3) := by decide +kernel
theorem dJ9_max_7cf53_9 : decode cJ9_max_7cf53 9 = .ok (.iload_n 1, 1) := by decide +kernel
theorem dJ9_max_7cf53_10 : decode cJ9_max_7cf53 10 = .ok (.ireturn, 1) := by decide +kernel
theorem dJ9_min_7cf53_0 : decode cJ9_min_7cf53 0 = .ok (.iload_n 0, 1) := by decide +kernel
theorem dJ9_min_7cf53_1 : decode cJ9_min_7cf53 1 = .ok (.iload_n 1, 1) := by decide +kernel
theorem dJ9_min_7cf53_2 : decode cJ9_min_7cf53 2 = .ok (.if_icmp .gt 7, 3) := by decide +kernel
theorem dJ9_min_7cf53_5 : decode cJ9_min_7cf53 5 = .ok (.iload_n 0, 1) := by decide +kernel
theorem dJ9_min_7cf53_6 : decode cJ9_min_7cf53 6 = .ok (.goto 4, 3) := by decide +kernel
theorem dJ9_min_7cf53_9 : decode cJ9_min_7cf53 9 = .ok (.iload_n 1, 1) := by decide +kernel
theorem dJ9_min_7cf53_10 : decode cJ9_min_7cf53 10 = .ok (.ireturn, 1) := by decide +kernel
theorem dX0_init_0 : decode cX0_init 0 = .ok (.aload_n 0, 1) := by decide +kernel
theorem dX0_init_1 : decode cX0_init 1 = .ok (.invokespecial 3, 3) := by decide +kernel
theorem dX0_init_4 : decode cX0_init 4 = .ok (.aload_n 0, 1) := by decide +kernel
theorem dX0_init_5 : decode cX0_init 5 = .ok (.new 9, 3) := by decide +kernel
theorem dX0_init_8 : decode cX0_init 8 = .ok (.dup, 1) := by decide +kernel
theorem dX0_init_9 : decode cX0_init 9 = .ok (.invokespecial 11, 3) := by decide +kernel
theorem dX0_init_12 : decode cX0_init 12 = .ok (.putfield 12, 3) := by decide +kernel
theorem dX0_init_15 : decode cX0_init 15 = .ok (.aload_n 0, 1) := by decide +kernel
theorem dX0_init_16 : decode cX0_init 16 = .ok (.bipush 6, 2) := by decide +kernel
theorem dX0_init_18 : decode cX0_init 18 = .ok (.anewarray 18, 3) := by decide +kernel
theorem dX0_init_21 : decode cX0_init 21 = .ok (.putfield 20, 3) := by decide +kernel
theorem dX0_init_24 : decode cX0_init 24 = .ok (.iconst 0, 1) := by decide +kernel
theorem dX0_init_25 : decode cX0_init 25 = .ok (.istore_n 1, 1) := by decide +kernel
theorem dX0_init_26 : decode cX0_init 26 = .ok (.iload_n 1, 1) := by decide +kernel
theorem dX0_init_27 : decode cX0_init 27 = .ok (.bipush 6, 2) := by decide +kernel
theorem dX0_init_29 : decode cX0_init 29 = .ok (.if_icmp .ge 22, 3) := by decide +kernel
theorem dX0_init_32 : decode cX0_init 32 = .ok (.aload_n 0, 1) := by decide +kernel
theorem dX0_init_33 : decode cX0_init 33 = .ok (.getfield 20, 3) := by decide +kernel
theorem dX0_init_36 : decode cX0_init 36 = .ok (.iload_n 1, 1) := by decide +kernel
theorem dX0_init_37 : decode cX0_init 37 = .ok (.new 18, 3) := by decide +kernel
theorem dX0_init_40 : decode cX0_init 40 = .ok (.dup, 1) := by decide +kernel
theorem dX0_init_41 : decode cX0_init 41 = .ok (.invokespecial 24, 3) := by decide +kernel
theorem dX0_init_44 : decode cX0_init 44 = .ok (.aastore, 1) := by decide +kernel
theorem dX0_init_45 : decode cX0_init 45 = .ok (.iinc 1 1, 3) := by decide +kernel
theorem dX0_init_48 : decode cX0_init 48 = .ok (.goto (-22), 3) := by decide +kernel
theorem dX0_init_51 : decode cX0_init 51 = .ok (.return_, 1) := by decide +kernel
theorem dX0_becomes_0 : decode cX0_becomes 0 = .ok (.aload_n 0, 1) := by decide +kernel
theorem dX0_becomes_1 : decode cX0_becomes 1 = .ok (.getfield 12, 3) := by decide +kernel
theorem dX0_becomes_4 : decode cX0_becomes 4 = .ok (.aload_n 1, 1) := by decide +kernel
theorem dX0_becomes_5 : decode cX0_becomes 5 = .ok (.getfield 12, 3) := by decide +kernel
theorem dX0_becomes_8 : decode cX0_becomes 8 = .ok (.invokevirtual 25, 3) := by decide +kernel
theorem dX0_becomes_11 : decode cX0_becomes 11 = .ok (.iconst 0, 1) := by decide +kernel
theorem dX0_becomes_12 : decode cX0_becomes 12 = .ok (.istore_n 2, 1) := by decide +kernel
theorem dX0_becomes_13 : decode cX0_becomes 13 = .ok (.iload_n 2, 1) := by decide +kernel
theorem dX0_becomes_14 : decode cX0_becomes 14 = .ok (.bipush 6, 2) := by decide +kernel
theorem dX0_becomes_16 : decode cX0_becomes 16 = .ok (.if_icmp .ge 24, 3) := by decide +kernel
theorem dX0_becomes_19 : decode cX0_becomes 19 = .ok (.aload_n 0, 1) := by decide +kernel
theorem dX0_becomes_20 : decode cX0_becomes 20 = .ok (.getfield 20, 3) := by decide +kernel
theorem dX0_becomes_23 : decode cX0_becomes 23 = .ok (.iload_n 2, 1) := by decide +kernel
theorem dX0_becomes_24 : decode cX0_becomes 24 = .ok (.aaload, 1) := by decide +kernel
theorem dX0_becomes_25 : decode cX0_becomes 25 = .ok (.aload_n 1, 1) := by decide +kernel
theorem dX0_becomes_26 : decode cX0_becomes 26 = .ok (.getfield 20, 3) := by decide +kernel
theorem dX0_becomes_29 : decode cX0_becomes 29 = .ok (.iload_n 2, 1) := by decide +kernel
theorem dX0_becomes_30 : decode cX0_becomes 30 = .ok (.aaload, 1) := by decide +kernel
theorem dX0_becomes_31 : decode cX0_becomes 31 = .ok (.invokevirtual 29, 3) := by decide +kernel
theorem dX0_becomes_34 : decode cX0_becomes 34 = .ok (.iinc 2 1, 3) := by decide +kernel
theorem dX0_becomes_37 : decode cX0_becomes 37 = .ok (.goto (-24), 3) := by decide +kernel
theorem dX0_becomes_40 : decode cX0_becomes 40 = .ok (.aload_n 0, 1) := by decide +kernel
theorem dX0_becomes_41 : decode cX0_becomes 41 = .ok (.aload_n 1, 1) := by decide +kernel
theorem dX0_becomes_42 : decode cX0_becomes 42 = .ok (.getfield 32, 3) := by decide +kernel
theorem dX0_becomes_45 : decode cX0_becomes 45 = .ok (.putfield 32, 3) := by decide +kernel
theorem dX0_becomes_48 : decode cX0_becomes 48 = .ok (.aload_n 0, 1) := by decide +kernel
theorem dX0_becomes_49 : decode cX0_becomes 49 = .ok (.aload_n 1, 1) := by decide +kernel
theorem dX0_becomes_50 : decode cX0_becomes 50 = .ok (.getfield 36, 3) := by decide +kernel
theorem dX0_becomes_53 : decode cX0_becomes 53 = .ok (.putfield 36, 3) := by decide +kernel
theorem dX0_becomes_56 : decode cX0_becomes 56 = .ok (.return_, 1) := by decide +kernel
theorem dX0_hasRider_0 : decode cX0_hasRider 0 = .ok (.iload_n 1, 1) := by decide +kernel
theorem dX0_hasRider_1 : decode cX0_hasRider 1 = .ok (.ifCond .lt 21, 3) := by decide +kernel
theorem dX0_hasRider_4 : decode cX0_hasRider 4 = .ok (.iload_n 1, 1) := by decide +kernel
theorem dX0_hasRider_5 : decode cX0_hasRider 5 = .ok (.aload_n 0, 1) := by decide +kernel
theorem dX0_hasRider_6 : decode cX0_hasRider 6 = .ok (.getfield 32, 3) := by decide +kernel
theorem dX0_hasRider_9 : decode cX0_hasRider 9 = .ok (.if_icmp .ge 13, 3) := by decide +kernel
theorem dX0_hasRider_12 : decode cX0_hasRider 12 = .ok (.iload_n 1, 1) := by decide +kernel
theorem dX0_hasRider_13 : decode cX0_hasRider 13 = .ok (.bipush 6, 2) := by decide +kernel
theorem dX0_hasRider_15 : decode cX0_hasRider 15 = .ok (.if_icmp .ge 7, 3) := by decide +kernel
theorem dX0_hasRider_18 : decode cX0_hasRider 18 = .ok (.iconst 1, 1) := by decide +kernel
theorem dX0_hasRider_19 : decode cX0_hasRider 19 = .ok (.goto 4, 3) := by decide +kernel
theorem dX0_hasRider_22 : decode cX0_hasRider 22 = .ok (.iconst 0, 1) := by decide +kernel
theorem dX0_hasRider_23 : decode cX0_hasRider 23 = .ok (.ireturn, 1) := by decide +kernel
theorem dX0_changeRoad_0 : decode cX0_changeRoad 0 = .ok (.iload_n 1, 1) := by decide +kernel
theorem dX0_changeRoad_1 : decode cX0_changeRoad 1 = .ok (.invokestatic 39, 3) := by decide +kernel
theorem dX0_changeRoad_4 : decode cX0_changeRoad 4 = .ok (.ifCond .eq 15, 3) := by decide +kernel
theorem dX0_changeRoad_7 : decode cX0_changeRoad 7 = .ok (.iload_n 2, 1) := by decide +kernel
theorem dX0_changeRoad_8 : decode cX0_changeRoad 8 = .ok (.invokestatic 39, 3) := by decide +kernel
theorem dX0_changeRoad_11 : decode cX0_changeRoad 11 = .ok (.ifCond .eq 8, 3) := by decide +kernel
theorem dX0_changeRoad_14 : decode cX0_changeRoad 14 = .ok (.iload_n 1, 1) := by decide +kernel
theorem dX0_changeRoad_15 : decode cX0_changeRoad 15 = .ok (.iload_n 2, 1) := by decide +kernel
theorem dX0_changeRoad_16 : decode cX0_changeRoad 16 = .ok (.if_icmp .ne 5, 3) := by decide +kernel
theorem dX0_changeRoad_19 : decode cX0_changeRoad 19 = .ok (.iconst 0, 1) := by decide +kernel
theorem dX0_changeRoad_20 : decode cX0_changeRoad 20 = .ok (.ireturn, 1) := by decide +kernel
theorem dX0_changeRoad_21 : decode cX0_changeRoad 21 = .ok (.aload_n 0, 1) := by decide +kernel
theorem dX0_changeRoad_22 : decode cX0_changeRoad 22 = .ok (.getfield 12, 3) := by decide +kernel
theorem dX0_changeRoad_25 : decode cX0_changeRoad 25 = .ok (.iload_n 1, 1) := by decide +kernel
theorem dX0_changeRoad_26 : decode cX0_changeRoad 26 = .ok (.iload_n 2, 1) := by decide +kernel
theorem dX0_changeRoad_27 : decode cX0_changeRoad 27 = .ok (.invokevirtual 43, 3) := by decide +kernel
theorem dX0_changeRoad_30 : decode cX0_changeRoad 30 = .ok (.iconst 1, 1) := by decide +kernel
theorem dX0_changeRoad_31 : decode cX0_changeRoad 31 = .ok (.ireturn, 1) := by decide +kernel
theorem dX0_addRider_0 : decode cX0_addRider 0 = .ok (.aload_n 0, 1) := by decide +kernel
theorem dX0_addRider_1 : decode cX0_addRider 1 = .ok (.getfield 32, 3) := by decide +kernel
theorem dX0_addRider_4 : decode cX0_addRider 4 = .ok (.bipush 6, 2) := by decide +kernel
theorem dX0_addRider_6 : decode cX0_addRider 6 = .ok (.if_icmp .ge 26, 3) := by decide +kernel
theorem dX0_addRider_9 : decode cX0_addRider 9 = .ok (.iload_n 3, 1) := by decide +kernel
theorem dX0_addRider_10 : decode cX0_addRider 10 = .ok (.invokestatic 39, 3) := by decide +kernel
theorem dX0_addRider_13 : decode cX0_addRider 13 = .ok (.ifCond .eq 19, 3) := by decide +kernel
theorem dX0_addRider_16 : decode cX0_addRider 16 = .ok (.iload 4, 2) := by decide +kernel
theorem dX0_addRider_18 : decode cX0_addRider 18 = .ok (.invokestatic 39, 3) := by decide +kernel
theorem dX0_addRider_21 : decode cX0_addRider 21 = .ok (.ifCond .eq 11, 3) := by decide +kernel
theorem dX0_addRider_24 : decode cX0_addRider 24 = .ok (.iload 5, 2) := by decide +kernel
theorem dX0_addRider_26 : decode cX0_addRider 26 = .ok (.invokestatic 39, 3) := by decide +kernel
theorem dX0_addRider_29 : decode cX0_addRider 29 = .ok (.ifCond .ne 5, 3) := by decide +kernel
theorem dX0_addRider_32 : decode cX0_addRider 32 = .ok (.iconst 0, 1) := by decide +kernel
theorem dX0_addRider_33 : decode cX0_addRider 33 = .ok (.ireturn, 1) := by decide +kernel
theorem dX0_addRider_34 : decode cX0_addRider 34 = .ok (.aload_n 0, 1) := by decide +kernel
theorem dX0_addRider_35 : decode cX0_addRider 35 = .ok (.getfield 20, 3) := by decide +kernel
theorem dX0_addRider_38 : decode cX0_addRider 38 = .ok (.aload_n 0, 1) := by decide +kernel
theorem dX0_addRider_39 : decode cX0_addRider 39 = .ok (.getfield 32, 3) := by decide +kernel
theorem dX0_addRider_42 : decode cX0_addRider 42 = .ok (.aaload, 1) := by decide +kernel
theorem dX0_addRider_43 : decode cX0_addRider 43 = .ok (.astore 6, 2) := by decide +kernel
theorem dX0_addRider_45 : decode cX0_addRider 45 = .ok (.aload 6, 2) := by decide +kernel
theorem dX0_addRider_47 : decode cX0_addRider 47 = .ok (.iload_n 1, 1) := by decide +kernel
theorem dX0_addRider_48 : decode cX0_addRider 48 = .ok (.putfield 47, 3) := by decide +kernel
theorem dX0_addRider_51 : decode cX0_addRider 51 = .ok (.aload 6, 2) := by decide +kernel
theorem dX0_addRider_53 : decode cX0_addRider 53 = .ok (.iload_n 2, 1) := by decide +kernel
theorem dX0_addRider_54 : decode cX0_addRider 54 = .ok (.putfield 50, 3) := by decide +kernel
theorem dX0_addRider_57 : decode cX0_addRider 57 = .ok (.aload 6, 2) := by decide +kernel
theorem dX0_addRider_59 : decode cX0_addRider 59 = .ok (.iload_n 3, 1) := by decide +kernel
theorem dX0_addRider_60 : decode cX0_addRider 60 = .ok (.putfield 53, 3) := by decide +kernel
theorem dX0_addRider_63 : decode cX0_addRider 63 = .ok (.aload 6, 2) := by decide +kernel
theorem dX0_addRider_65 : decode cX0_addRider 65 = .ok (.iload 4, 2) := by decide +kernel
theorem dX0_addRider_67 : decode cX0_addRider 67 = .ok (.putfield 56, 3) := by decide +kernel
theorem dX0_addRider_70 : decode cX0_addRider 70 = .ok (.aload 6, 2) := by decide +kernel
theorem dX0_addRider_72 : decode cX0_addRider 72 = .ok (.iload 5, 2) := by decide +kernel
theorem dX0_addRider_74 : decode cX0_addRider 74 = .ok (.putfield 59, 3) := by decide +kernel
theorem dX0_addRider_77 : decode cX0_addRider 77 = .ok (.aload 6, 2) := by decide +kernel
theorem dX0_addRider_79 : decode cX0_addRider 79 = .ok (.invokevirtual 62, 3) := by decide +kernel
theorem dX0_addRider_82 : decode cX0_addRider 82 = .ok (.aload_n 0, 1) := by decide +kernel
theorem dX0_addRider_83 : decode cX0_addRider 83 = .ok (.dup, 1) := by decide +kernel
theorem dX0_addRider_84 : decode cX0_addRider 84 = .ok (.getfield 32, 3) := by decide +kernel
theorem dX0_addRider_87 : decode cX0_addRider 87 = .ok (.iconst 1, 1) := by decide +kernel
theorem dX0_addRider_88 : decode cX0_addRider 88 = .ok (.iadd, 1) := by decide +kernel
theorem dX0_addRider_89 : decode cX0_addRider 89 = .ok (.putfield 32, 3) := by decide +kernel
theorem dX0_addRider_92 : decode cX0_addRider 92 = .ok (.iconst 1, 1) := by decide +kernel
theorem dX0_addRider_93 : decode cX0_addRider 93 = .ok (.ireturn, 1) := by decide +kernel
theorem dX0_shoeAnew_0 : decode cX0_shoeAnew 0 = .ok (.aload_n 0, 1) := by decide +kernel
theorem dX0_shoeAnew_1 : decode cX0_shoeAnew 1 = .ok (.iload_n 1, 1) := by decide +kernel
theorem dX0_shoeAnew_2 : decode cX0_shoeAnew 2 = .ok (.invokevirtual 65, 3) := by decide +kernel
theorem dX0_shoeAnew_5 : decode cX0_shoeAnew 5 = .ok (.ifCond .ne 5, 3) := by decide +kernel
theorem dX0_shoeAnew_8 : decode cX0_shoeAnew 8 = .ok (.iconst 0, 1) := by decide +kernel
theorem dX0_shoeAnew_9 : decode cX0_shoeAnew 9 = .ok (.ireturn, 1) := by decide +kernel
theorem dX0_shoeAnew_10 : decode cX0_shoeAnew 10 = .ok (.aload_n 0, 1) := by decide +kernel
theorem dX0_shoeAnew_11 : decode cX0_shoeAnew 11 = .ok (.getfield 20, 3) := by decide +kernel
theorem dX0_shoeAnew_14 : decode cX0_shoeAnew 14 = .ok (.iload_n 1, 1) := by decide +kernel
theorem dX0_shoeAnew_15 : decode cX0_shoeAnew 15 = .ok (.aaload, 1) := by decide +kernel
theorem dX0_shoeAnew_16 : decode cX0_shoeAnew 16 = .ok (.invokevirtual 62, 3) := by decide +kernel
theorem dX0_shoeAnew_19 : decode cX0_shoeAnew 19 = .ok (.iconst 1, 1) := by decide +kernel
theorem dX0_shoeAnew_20 : decode cX0_shoeAnew 20 = .ok (.ireturn, 1) := by decide +kernel
theorem dX0_setGoal_0 : decode cX0_setGoal 0 = .ok (.aload_n 0, 1) := by decide +kernel
theorem dX0_setGoal_1 : decode cX0_setGoal 1 = .ok (.iload_n 1, 1) := by decide +kernel
theorem dX0_setGoal_2 : decode cX0_setGoal 2 = .ok (.invokevirtual 65, 3) := by decide +kernel
theorem dX0_setGoal_5 : decode cX0_setGoal 5 = .ok (.ifCond .eq 10, 3) := by decide +kernel
theorem dX0_setGoal_8 : decode cX0_setGoal 8 = .ok (.iload_n 2, 1) := by decide +kernel
theorem dX0_setGoal_9 : decode cX0_setGoal 9 = .ok (.invokestatic 39, 3) := by decide +kernel
theorem dX0_setGoal_12 : decode cX0_setGoal 12 = .ok (.ifCond .ne 5, 3) := by decide +kernel
theorem dX0_setGoal_15 : decode cX0_setGoal 15 = .ok (.iconst 0, 1) := by decide +kernel
theorem dX0_setGoal_16 : decode cX0_setGoal 16 = .ok (.ireturn, 1) := by decide +kernel
theorem dX0_setGoal_17 : decode cX0_setGoal 17 = .ok (.aload_n 0, 1) := by decide +kernel
theorem dX0_setGoal_18 : decode cX0_setGoal 18 = .ok (.getfield 20, 3) := by decide +kernel
theorem dX0_setGoal_21 : decode cX0_setGoal 21 = .ok (.iload_n 1, 1) := by decide +kernel
theorem dX0_setGoal_22 : decode cX0_setGoal 22 = .ok (.aaload, 1) := by decide +kernel
theorem dX0_setGoal_23 : decode cX0_setGoal 23 = .ok (.iload_n 2, 1) := by decide +kernel
theorem dX0_setGoal_24 : decode cX0_setGoal 24 = .ok (.putfield 53, 3) := by decide +kernel
theorem dX0_setGoal_27 : decode cX0_setGoal 27 = .ok (.iconst 1, 1) := by decide +kernel
theorem dX0_setGoal_28 : decode cX0_setGoal 28 = .ok (.ireturn, 1) := by decide +kernel
theorem dX0_setAt_0 : decode cX0_setAt 0 = .ok (.aload_n 0, 1) := by decide +kernel
theorem dX0_setAt_1 : decode cX0_setAt 1 = .ok (.iload_n 1, 1) := by decide +kernel
theorem dX0_setAt_2 : decode cX0_setAt 2 = .ok (.invokevirtual 65, 3) := by decide +kernel
theorem dX0_setAt_5 : decode cX0_setAt 5 = .ok (.ifCond .eq 10, 3) := by decide +kernel
theorem dX0_setAt_8 : decode cX0_setAt 8 = .ok (.iload_n 2, 1) := by decide +kernel
theorem dX0_setAt_9 : decode cX0_setAt 9 = .ok (.invokestatic 39, 3) := by decide +kernel
theorem dX0_setAt_12 : decode cX0_setAt 12 = .ok (.ifCond .ne 5, 3) := by decide +kernel
theorem dX0_setAt_15 : decode cX0_setAt 15 = .ok (.iconst 0, 1) := by decide +kernel
theorem dX0_setAt_16 : decode cX0_setAt 16 = .ok (.ireturn, 1) := by decide +kernel
theorem dX0_setAt_17 : decode cX0_setAt 17 = .ok (.aload_n 0, 1) := by decide +kernel
theorem dX0_setAt_18 : decode cX0_setAt 18 = .ok (.getfield 20, 3) := by decide +kernel
theorem dX0_setAt_21 : decode cX0_setAt 21 = .ok (.iload_n 1, 1) := by decide +kernel
theorem dX0_setAt_22 : decode cX0_setAt 22 = .ok (.aaload, 1) := by decide +kernel
theorem dX0_setAt_23 : decode cX0_setAt 23 = .ok (.iload_n 2, 1) := by decide +kernel
theorem dX0_setAt_24 : decode cX0_setAt 24 = .ok (.putfield 59, 3) := by decide +kernel
theorem dX0_setAt_27 : decode cX0_setAt 27 = .ok (.iconst 1, 1) := by decide +kernel
theorem dX0_setAt_28 : decode cX0_setAt 28 = .ok (.ireturn, 1) := by decide +kernel
theorem dX0_passDays_0 : decode cX0_passDays 0 = .ok (.iload_n 1, 1) := by decide +kernel
theorem dX0_passDays_1 : decode cX0_passDays 1 = .ok (.iconst 1, 1) := by decide +kernel
theorem dX0_passDays_2 : decode cX0_passDays 2 = .ok (.if_icmp .lt 21, 3) := by decide +kernel
theorem dX0_passDays_5 : decode cX0_passDays 5 = .ok (.iload_n 1, 1) := by decide +kernel
theorem dX0_passDays_6 : decode cX0_passDays 6 = .ok (.bipush 60, 2) := by decide +kernel
theorem dX0_passDays_8 : decode cX0_passDays 8 = .ok (.if_icmp .gt 15, 3) := by decide +kernel
theorem dX0_passDays_11 : decode cX0_passDays 11 = .ok (.aload_n 0, 1) := by decide +kernel
theorem dX0_passDays_12 : decode cX0_passDays 12 = .ok (.getfield 36, 3) := by decide +kernel
theorem dX0_passDays_15 : decode cX0_passDays 15 = .ok (.iload_n 1, 1) := by decide +kernel
theorem dX0_passDays_16 : decode cX0_passDays 16 = .ok (.iadd, 1) := by decide +kernel
theorem dX0_passDays_17 : decode cX0_passDays 17 = .ok (.sipush 999, 3) := by decide +kernel
theorem dX0_passDays_20 : decode cX0_passDays 20 = .ok (.if_icmp .le 5, 3) := by decide +kernel
theorem dX0_passDays_23 : decode cX0_passDays 23 = .ok (.iconst 0, 1) := by decide +kernel
theorem dX0_passDays_24 : decode cX0_passDays 24 = .ok (.ireturn, 1) := by decide +kernel
theorem dX0_passDays_25 : decode cX0_passDays 25 = .ok (.aload_n 0, 1) := by decide +kernel
theorem dX0_passDays_26 : decode cX0_passDays 26 = .ok (.dup, 1) := by decide +kernel
theorem dX0_passDays_27 : decode cX0_passDays 27 = .ok (.getfield 36, 3) := by decide +kernel
theorem dX0_passDays_30 : decode cX0_passDays 30 = .ok (.iload_n 1, 1) := by decide +kernel
theorem dX0_passDays_31 : decode cX0_passDays 31 = .ok (.iadd, 1) := by decide +kernel
theorem dX0_passDays_32 : decode cX0_passDays 32 = .ok (.putfield 36, 3) := by decide +kernel
theorem dX0_passDays_35 : decode cX0_passDays 35 = .ok (.iconst 0, 1) := by decide +kernel
theorem dX0_passDays_36 : decode cX0_passDays 36 = .ok (.istore_n 2, 1) := by decide +kernel
theorem dX0_passDays_37 : decode cX0_passDays 37 = .ok (.iload_n 2, 1) := by decide +kernel
theorem dX0_passDays_38 : decode cX0_passDays 38 = .ok (.aload_n 0, 1) := by decide +kernel
theorem dX0_passDays_39 : decode cX0_passDays 39 = .ok (.getfield 32, 3) := by decide +kernel
theorem dX0_passDays_42 : decode cX0_passDays 42 = .ok (.if_icmp .ge 35, 3) := by decide +kernel
theorem dX0_passDays_45 : decode cX0_passDays 45 = .ok (.iconst 0, 1) := by decide +kernel
theorem dX0_passDays_46 : decode cX0_passDays 46 = .ok (.istore_n 3, 1) := by decide +kernel
theorem dX0_passDays_47 : decode cX0_passDays 47 = .ok (.iload_n 3, 1) := by decide +kernel
theorem dX0_passDays_48 : decode cX0_passDays 48 = .ok (.iload_n 1, 1) := by decide +kernel
theorem dX0_passDays_49 : decode cX0_passDays 49 = .ok (.if_icmp .ge 22, 3) := by decide +kernel
theorem dX0_passDays_52 : decode cX0_passDays 52 = .ok (.aload_n 0, 1) := by decide +kernel
theorem dX0_passDays_53 : decode cX0_passDays 53 = .ok (.getfield 20, 3) := by decide +kernel
theorem dX0_passDays_56 : decode cX0_passDays 56 = .ok (.iload_n 2, 1) := by decide +kernel
theorem dX0_passDays_57 : decode cX0_passDays 57 = .ok (.aaload, 1) := by decide +kernel
theorem dX0_passDays_58 : decode cX0_passDays 58 = .ok (.aload_n 0, 1) := by decide +kernel
theorem dX0_passDays_59 : decode cX0_passDays 59 = .ok (.getfield 12, 3) := by decide +kernel
theorem dX0_passDays_62 : decode cX0_passDays 62 = .ok (.invokevirtual 68, 3) := by decide +kernel
theorem dX0_passDays_65 : decode cX0_passDays 65 = .ok (.iinc 3 1, 3) := by decide +kernel
theorem dX0_passDays_68 : decode cX0_passDays 68 = .ok (.goto (-21), 3) := by decide +kernel
theorem dX0_passDays_71 : decode cX0_passDays 71 = .ok (.iinc 2 1, 3) := by decide +kernel
theorem dX0_passDays_74 : decode cX0_passDays 74 = .ok (.goto (-37), 3) := by decide +kernel
theorem dX0_passDays_77 : decode cX0_passDays 77 = .ok (.iconst 1, 1) := by decide +kernel
theorem dX0_passDays_78 : decode cX0_passDays 78 = .ok (.ireturn, 1) := by decide +kernel
theorem dX0_arrivedBits_0 : decode cX0_arrivedBits 0 = .ok (.iconst 0, 1) := by decide +kernel
theorem dX0_arrivedBits_1 : decode cX0_arrivedBits 1 = .ok (.istore_n 1, 1) := by decide +kernel
theorem dX0_arrivedBits_2 : decode cX0_arrivedBits 2 = .ok (.iconst 0, 1) := by decide +kernel
theorem dX0_arrivedBits_3 : decode cX0_arrivedBits 3 = .ok (.istore_n 2, 1) := by decide +kernel
theorem dX0_arrivedBits_4 : decode cX0_arrivedBits 4 = .ok (.iload_n 2, 1) := by decide +kernel
theorem dX0_arrivedBits_5 : decode cX0_arrivedBits 5 = .ok (.aload_n 0, 1) := by decide +kernel
theorem dX0_arrivedBits_6 : decode cX0_arrivedBits 6 = .ok (.getfield 32, 3) := by decide +kernel
theorem dX0_arrivedBits_9 : decode cX0_arrivedBits 9 = .ok (.if_icmp .ge 27, 3) := by decide +kernel
theorem dX0_arrivedBits_12 : decode cX0_arrivedBits 12 = .ok (.aload_n 0, 1) := by decide +kernel
theorem dX0_arrivedBits_13 : decode cX0_arrivedBits 13 = .ok (.getfield 20, 3) := by decide +kernel
theorem dX0_arrivedBits_16 : decode cX0_arrivedBits 16 = .ok (.iload_n 2, 1) := by decide +kernel
theorem dX0_arrivedBits_17 : decode cX0_arrivedBits 17 = .ok (.aaload, 1) := by decide +kernel
theorem dX0_arrivedBits_18 : decode cX0_arrivedBits 18 = .ok (.invokevirtual 71, 3) := by decide +kernel
theorem dX0_arrivedBits_21 : decode cX0_arrivedBits 21 = .ok (.ifCond .eq 9, 3) := by decide +kernel
theorem dX0_arrivedBits_24 : decode cX0_arrivedBits 24 = .ok (.iload_n 1, 1) := by decide +kernel
theorem dX0_arrivedBits_25 : decode cX0_arrivedBits 25 = .ok (.iconst 1, 1) := by decide +kernel
theorem dX0_arrivedBits_26 : decode cX0_arrivedBits 26 = .ok (.iload_n 2, 1) := by decide +kernel
theorem dX0_arrivedBits_27 : decode cX0_arrivedBits 27 = .ok (.ishl, 1) := by decide +kernel
theorem dX0_arrivedBits_28 : decode cX0_arrivedBits 28 = .ok (.ior, 1) := by decide +kernel
theorem dX0_arrivedBits_29 : decode cX0_arrivedBits 29 = .ok (.istore_n 1, 1) := by decide +kernel
theorem dX0_arrivedBits_30 : decode cX0_arrivedBits 30 = .ok (.iinc 2 1, 3) := by decide +kernel
theorem dX0_arrivedBits_33 : decode cX0_arrivedBits 33 = .ok (.goto (-29), 3) := by decide +kernel
theorem dX0_arrivedBits_36 : decode cX0_arrivedBits 36 = .ok (.iload_n 1, 1) := by decide +kernel
theorem dX0_arrivedBits_37 : decode cX0_arrivedBits 37 = .ok (.ireturn, 1) := by decide +kernel
theorem dX0_honestBits_0 : decode cX0_honestBits 0 = .ok (.iconst 0, 1) := by decide +kernel
theorem dX0_honestBits_1 : decode cX0_honestBits 1 = .ok (.istore_n 1, 1) := by decide +kernel
theorem dX0_honestBits_2 : decode cX0_honestBits 2 = .ok (.iconst 0, 1) := by decide +kernel
theorem dX0_honestBits_3 : decode cX0_honestBits 3 = .ok (.istore_n 2, 1) := by decide +kernel
theorem dX0_honestBits_4 : decode cX0_honestBits 4 = .ok (.iload_n 2, 1) := by decide +kernel
theorem dX0_honestBits_5 : decode cX0_honestBits 5 = .ok (.aload_n 0, 1) := by decide +kernel
theorem dX0_honestBits_6 : decode cX0_honestBits 6 = .ok (.getfield 32, 3) := by decide +kernel
theorem dX0_honestBits_9 : decode cX0_honestBits 9 = .ok (.if_icmp .ge 36, 3) := by decide +kernel
theorem dX0_honestBits_12 : decode cX0_honestBits 12 = .ok (.aload_n 0, 1) := by decide +kernel
theorem dX0_honestBits_13 : decode cX0_honestBits 13 = .ok (.getfield 20, 3) := by decide +kernel
theorem dX0_honestBits_16 : decode cX0_honestBits 16 = .ok (.iload_n 2, 1) := by decide +kernel
theorem dX0_honestBits_17 : decode cX0_honestBits 17 = .ok (.aaload, 1) := by decide +kernel
theorem dX0_honestBits_18 : decode cX0_honestBits 18 = .ok (.getfield 53, 3) := by decide +kernel
theorem dX0_honestBits_21 : decode cX0_honestBits 21 = .ok (.aload_n 0, 1) := by decide +kernel
theorem dX0_honestBits_22 : decode cX0_honestBits 22 = .ok (.getfield 20, 3) := by decide +kernel
theorem dX0_honestBits_25 : decode cX0_honestBits 25 = .ok (.iload_n 2, 1) := by decide +kernel
theorem dX0_honestBits_26 : decode cX0_honestBits 26 = .ok (.aaload, 1) := by decide +kernel
theorem dX0_honestBits_27 : decode cX0_honestBits 27 = .ok (.getfield 56, 3) := by decide +kernel
theorem dX0_honestBits_30 : decode cX0_honestBits 30 = .ok (.if_icmp .ne 9, 3) := by decide +kernel
theorem dX0_honestBits_33 : decode cX0_honestBits 33 = .ok (.iload_n 1, 1) := by decide +kernel
theorem dX0_honestBits_34 : decode cX0_honestBits 34 = .ok (.iconst 1, 1) := by decide +kernel
theorem dX0_honestBits_35 : decode cX0_honestBits 35 = .ok (.iload_n 2, 1) := by decide +kernel
theorem dX0_honestBits_36 : decode cX0_honestBits 36 = .ok (.ishl, 1) := by decide +kernel
theorem dX0_honestBits_37 : decode cX0_honestBits 37 = .ok (.ior, 1) := by decide +kernel
theorem dX0_honestBits_38 : decode cX0_honestBits 38 = .ok (.istore_n 1, 1) := by decide +kernel
theorem dX0_honestBits_39 : decode cX0_honestBits 39 = .ok (.iinc 2 1, 3) := by decide +kernel
theorem dX0_honestBits_42 : decode cX0_honestBits 42 = .ok (.goto (-38), 3) := by decide +kernel
theorem dX0_honestBits_45 : decode cX0_honestBits 45 = .ok (.iload_n 1, 1) := by decide +kernel
theorem dX0_honestBits_46 : decode cX0_honestBits 46 = .ok (.ireturn, 1) := by decide +kernel
theorem dX0_lostBits_0 : decode cX0_lostBits 0 = .ok (.iconst 0, 1) := by decide +kernel
theorem dX0_lostBits_1 : decode cX0_lostBits 1 = .ok (.istore_n 1, 1) := by decide +kernel
theorem dX0_lostBits_2 : decode cX0_lostBits 2 = .ok (.iconst 0, 1) := by decide +kernel
theorem dX0_lostBits_3 : decode cX0_lostBits 3 = .ok (.istore_n 2, 1) := by decide +kernel
theorem dX0_lostBits_4 : decode cX0_lostBits 4 = .ok (.iload_n 2, 1) := by decide +kernel
theorem dX0_lostBits_5 : decode cX0_lostBits 5 = .ok (.aload_n 0, 1) := by decide +kernel
theorem dX0_lostBits_6 : decode cX0_lostBits 6 = .ok (.getfield 32, 3) := by decide +kernel
theorem dX0_lostBits_9 : decode cX0_lostBits 9 = .ok (.if_icmp .ge 33, 3) := by decide +kernel
theorem dX0_lostBits_12 : decode cX0_lostBits 12 = .ok (.aload_n 0, 1) := by decide +kernel
theorem dX0_lostBits_13 : decode cX0_lostBits 13 = .ok (.getfield 20, 3) := by decide +kernel
theorem dX0_lostBits_16 : decode cX0_lostBits 16 = .ok (.iload_n 2, 1) := by decide +kernel
theorem dX0_lostBits_17 : decode cX0_lostBits 17 = .ok (.aaload, 1) := by decide +kernel
theorem dX0_lostBits_18 : decode cX0_lostBits 18 = .ok (.aload_n 0, 1) := by decide +kernel
theorem dX0_lostBits_19 : decode cX0_lostBits 19 = .ok (.getfield 12, 3) := by decide +kernel
theorem dX0_lostBits_22 : decode cX0_lostBits 22 = .ok (.invokevirtual 75, 3) := by decide +kernel
theorem dX0_lostBits_25 : decode cX0_lostBits 25 = .ok (.bipush 9, 2) := by decide +kernel
theorem dX0_lostBits_27 : decode cX0_lostBits 27 = .ok (.if_icmp .ne 9, 3) := by decide +kernel
theorem dX0_lostBits_30 : decode cX0_lostBits 30 = .ok (.iload_n 1, 1) := by decide +kernel
theorem dX0_lostBits_31 : decode cX0_lostBits 31 = .ok (.iconst 1, 1) := by decide +kernel
theorem dX0_lostBits_32 : decode cX0_lostBits 32 = .ok (.iload_n 2, 1) := by decide +kernel
theorem dX0_lostBits_33 : decode cX0_lostBits 33 = .ok (.ishl, 1) := by decide +kernel
theorem dX0_lostBits_34 : decode cX0_lostBits 34 = .ok (.ior, 1) := by decide +kernel
theorem dX0_lostBits_35 : decode cX0_lostBits 35 = .ok (.istore_n 1, 1) := by decide +kernel
theorem dX0_lostBits_36 : decode cX0_lostBits 36 = .ok (.iinc 2 1, 3) := by decide +kernel
theorem dX0_lostBits_39 : decode cX0_lostBits 39 = .ok (.goto (-35), 3) := by decide +kernel
theorem dX0_lostBits_42 : decode cX0_lostBits 42 = .ok (.iload_n 1, 1) := by decide +kernel
theorem dX0_lostBits_43 : decode cX0_lostBits 43 = .ok (.ireturn, 1) := by decide +kernel
theorem dX0_allShoes_0 : decode cX0_allShoes 0 = .ok (.iconst 0, 1) := by decide +kernel
theorem dX0_allShoes_1 : decode cX0_allShoes 1 = .ok (.istore_n 1, 1) := by decide +kernel
theorem dX0_allShoes_2 : decode cX0_allShoes 2 = .ok (.iconst 0, 1) := by decide +kernel
theorem dX0_allShoes_3 : decode cX0_allShoes 3 = .ok (.istore_n 2, 1) := by decide +kernel
theorem dX0_allShoes_4 : decode cX0_allShoes 4 = .ok (.iload_n 2, 1) := by decide +kernel
theorem dX0_allShoes_5 : decode cX0_allShoes 5 = .ok (.aload_n 0, 1) := by decide +kernel
theorem dX0_allShoes_6 : decode cX0_allShoes 6 = .ok (.getfield 32, 3) := by decide +kernel
theorem dX0_allShoes_9 : decode cX0_allShoes 9 = .ok (.if_icmp .ge 21, 3) := by decide +kernel
theorem dX0_allShoes_12 : decode cX0_allShoes 12 = .ok (.iload_n 1, 1) := by decide +kernel
theorem dX0_allShoes_13 : decode cX0_allShoes 13 = .ok (.aload_n 0, 1) := by decide +kernel
theorem dX0_allShoes_14 : decode cX0_allShoes 14 = .ok (.getfield 20, 3) := by decide +kernel
theorem dX0_allShoes_17 : decode cX0_allShoes 17 = .ok (.iload_n 2, 1) := by decide +kernel
theorem dX0_allShoes_18 : decode cX0_allShoes 18 = .ok (.aaload, 1) := by decide +kernel
theorem dX0_allShoes_19 : decode cX0_allShoes 19 = .ok (.getfield 79, 3) := by decide +kernel
theorem dX0_allShoes_22 : decode cX0_allShoes 22 = .ok (.iadd, 1) := by decide +kernel
theorem dX0_allShoes_23 : decode cX0_allShoes 23 = .ok (.istore_n 1, 1) := by decide +kernel
theorem dX0_allShoes_24 : decode cX0_allShoes 24 = .ok (.iinc 2 1, 3) := by decide +kernel
theorem dX0_allShoes_27 : decode cX0_allShoes 27 = .ok (.goto (-23), 3) := by decide +kernel
theorem dX0_allShoes_30 : decode cX0_allShoes 30 = .ok (.iload_n 1, 1) := by decide +kernel
theorem dX0_allShoes_31 : decode cX0_allShoes 31 = .ok (.ireturn, 1) := by decide +kernel
theorem dX0_allWorn_0 : decode cX0_allWorn 0 = .ok (.iconst 0, 1) := by decide +kernel
theorem dX0_allWorn_1 : decode cX0_allWorn 1 = .ok (.istore_n 1, 1) := by decide +kernel
theorem dX0_allWorn_2 : decode cX0_allWorn 2 = .ok (.iconst 0, 1) := by decide +kernel
theorem dX0_allWorn_3 : decode cX0_allWorn 3 = .ok (.istore_n 2, 1) := by decide +kernel
theorem dX0_allWorn_4 : decode cX0_allWorn 4 = .ok (.iload_n 2, 1) := by decide +kernel
theorem dX0_allWorn_5 : decode cX0_allWorn 5 = .ok (.aload_n 0, 1) := by decide +kernel
theorem dX0_allWorn_6 : decode cX0_allWorn 6 = .ok (.getfield 32, 3) := by decide +kernel
theorem dX0_allWorn_9 : decode cX0_allWorn 9 = .ok (.if_icmp .ge 21, 3) := by decide +kernel
theorem dX0_allWorn_12 : decode cX0_allWorn 12 = .ok (.iload_n 1, 1) := by decide +kernel
theorem dX0_allWorn_13 : decode cX0_allWorn 13 = .ok (.aload_n 0, 1) := by decide +kernel
theorem dX0_allWorn_14 : decode cX0_allWorn 14 = .ok (.getfield 20, 3) := by decide +kernel
theorem dX0_allWorn_17 : decode cX0_allWorn 17 = .ok (.iload_n 2, 1) := by decide +kernel
theorem dX0_allWorn_18 : decode cX0_allWorn 18 = .ok (.aaload, 1) := by decide +kernel
theorem dX0_allWorn_19 : decode cX0_allWorn 19 = .ok (.getfield 82, 3) := by decide +kernel
theorem dX0_allWorn_22 : decode cX0_allWorn 22 = .ok (.iadd, 1) := by decide +kernel
theorem dX0_allWorn_23 : decode cX0_allWorn 23 = .ok (.istore_n 1, 1) := by decide +kernel
theorem dX0_allWorn_24 : decode cX0_allWorn 24 = .ok (.iinc 2 1, 3) := by decide +kernel
theorem dX0_allWorn_27 : decode cX0_allWorn 27 = .ok (.goto (-23), 3) := by decide +kernel
theorem dX0_allWorn_30 : decode cX0_allWorn 30 = .ok (.iload_n 1, 1) := by decide +kernel
theorem dX0_allWorn_31 : decode cX0_allWorn 31 = .ok (.ireturn, 1) := by decide +kernel
theorem dX1_init_0 : decode cX1_init 0 = .ok (.aload_n 0, 1) := by decide +kernel
theorem dX1_init_1 : decode cX1_init 1 = .ok (.invokespecial 3, 3) := by decide +kernel
theorem dX1_init_4 : decode cX1_init 4 = .ok (.return_, 1) := by decide +kernel
theorem dX1_becomes_0 : decode cX1_becomes 0 = .ok (.aload_n 0, 1) := by decide +kernel
theorem dX1_becomes_1 : decode cX1_becomes 1 = .ok (.aload_n 1, 1) := by decide +kernel
theorem dX1_becomes_2 : decode cX1_becomes 2 = .ok (.getfield 9, 3) := by decide +kernel
theorem dX1_becomes_5 : decode cX1_becomes 5 = .ok (.putfield 9, 3) := by decide +kernel
theorem dX1_becomes_8 : decode cX1_becomes 8 = .ok (.aload_n 0, 1) := by decide +kernel
theorem dX1_becomes_9 : decode cX1_becomes 9 = .ok (.aload_n 1, 1) := by decide +kernel
theorem dX1_becomes_10 : decode cX1_becomes 10 = .ok (.getfield 15, 3) := by decide +kernel
theorem dX1_becomes_13 : decode cX1_becomes 13 = .ok (.putfield 15, 3) := by decide +kernel
theorem dX1_becomes_16 : decode cX1_becomes 16 = .ok (.aload_n 0, 1) := by decide +kernel
theorem dX1_becomes_17 : decode cX1_becomes 17 = .ok (.aload_n 1, 1) := by decide +kernel
theorem dX1_becomes_18 : decode cX1_becomes 18 = .ok (.getfield 18, 3) := by decide +kernel
theorem dX1_becomes_21 : decode cX1_becomes 21 = .ok (.putfield 18, 3) := by decide +kernel
theorem dX1_becomes_24 : decode cX1_becomes 24 = .ok (.aload_n 0, 1) := by decide +kernel
theorem dX1_becomes_25 : decode cX1_becomes 25 = .ok (.aload_n 1, 1) := by decide +kernel
theorem dX1_becomes_26 : decode cX1_becomes 26 = .ok (.getfield 21, 3) := by decide +kernel
theorem dX1_becomes_29 : decode cX1_becomes 29 = .ok (.putfield 21, 3) := by decide +kernel
theorem dX1_becomes_32 : decode cX1_becomes 32 = .ok (.aload_n 0, 1) := by decide +kernel
theorem dX1_becomes_33 : decode cX1_becomes 33 = .ok (.aload_n 1, 1) := by decide +kernel
theorem dX1_becomes_34 : decode cX1_becomes 34 = .ok (.getfield 24, 3) := by decide +kernel
theorem dX1_becomes_37 : decode cX1_becomes 37 = .ok (.putfield 24, 3) := by decide +kernel
theorem dX1_becomes_40 : decode cX1_becomes 40 = .ok (.aload_n 0, 1) := by decide +kernel
theorem dX1_becomes_41 : decode cX1_becomes 41 = .ok (.aload_n 1, 1) := by decide +kernel
theorem dX1_becomes_42 : decode cX1_becomes 42 = .ok (.getfield 27, 3) := by decide +kernel
theorem dX1_becomes_45 : decode cX1_becomes 45 = .ok (.putfield 27, 3) := by decide +kernel
theorem dX1_becomes_48 : decode cX1_becomes 48 = .ok (.aload_n 0, 1) := by decide +kernel
theorem dX1_becomes_49 : decode cX1_becomes 49 = .ok (.aload_n 1, 1) := by decide +kernel
theorem dX1_becomes_50 : decode cX1_becomes 50 = .ok (.getfield 30, 3) := by decide +kernel
theorem dX1_becomes_53 : decode cX1_becomes 53 = .ok (.putfield 30, 3) := by decide +kernel
theorem dX1_becomes_56 : decode cX1_becomes 56 = .ok (.return_, 1) := by decide +kernel
theorem dX1_shoeAnew_0 : decode cX1_shoeAnew 0 = .ok (.aload_n 0, 1) := by decide +kernel
theorem dX1_shoeAnew_1 : decode cX1_shoeAnew 1 = .ok (.aload_n 0, 1) := by decide +kernel
theorem dX1_shoeAnew_2 : decode cX1_shoeAnew 2 = .ok (.getfield 9, 3) := by decide +kernel
theorem dX1_shoeAnew_5 : decode cX1_shoeAnew 5 = .ok (.invokestatic 33, 3) := by decide +kernel
theorem dX1_shoeAnew_8 : decode cX1_shoeAnew 8 = .ok (.putfield 27, 3) := by decide +kernel
theorem dX1_shoeAnew_11 : decode cX1_shoeAnew 11 = .ok (.aload_n 0, 1) := by decide +kernel
theorem dX1_shoeAnew_12 : decode cX1_shoeAnew 12 = .ok (.iconst 0, 1) := by decide +kernel
theorem dX1_shoeAnew_13 : decode cX1_shoeAnew 13 = .ok (.putfield 30, 3) := by decide +kernel
theorem dX1_shoeAnew_16 : decode cX1_shoeAnew 16 = .ok (.return_, 1) := by decide +kernel
theorem dX1_daysForShoe_0 : decode cX1_daysForShoe 0 = .ok (.aload_n 0, 1) := by decide +kernel
theorem dX1_daysForShoe_1 : decode cX1_daysForShoe 1 = .ok (.getfield 9, 3) := by decide +kernel
theorem dX1_daysForShoe_4 : decode cX1_daysForShoe 4 = .ok (.aload_n 0, 1) := by decide +kernel
theorem dX1_daysForShoe_5 : decode cX1_daysForShoe 5 = .ok (.getfield 15, 3) := by decide +kernel
theorem dX1_daysForShoe_8 : decode cX1_daysForShoe 8 = .ok (.invokestatic 37, 3) := by decide +kernel
theorem dX1_daysForShoe_11 : decode cX1_daysForShoe 11 = .ok (.ireturn, 1) := by decide +kernel
theorem dX1_wearIron_0 : decode cX1_wearIron 0 = .ok (.aload_n 0, 1) := by decide +kernel
theorem dX1_wearIron_1 : decode cX1_wearIron 1 = .ok (.aload_n 0, 1) := by decide +kernel
theorem dX1_wearIron_2 : decode cX1_wearIron 2 = .ok (.getfield 30, 3) := by decide +kernel
theorem dX1_wearIron_5 : decode cX1_wearIron 5 = .ok (.iconst 1, 1) := by decide +kernel
theorem dX1_wearIron_6 : decode cX1_wearIron 6 = .ok (.iadd, 1) := by decide +kernel
theorem dX1_wearIron_7 : decode cX1_wearIron 7 = .ok (.bipush 99, 2) := by decide +kernel
theorem dX1_wearIron_9 : decode cX1_wearIron 9 = .ok (.invokestatic 41, 3) := by decide +kernel
theorem dX1_wearIron_12 : decode cX1_wearIron 12 = .ok (.putfield 30, 3) := by decide +kernel
theorem dX1_wearIron_15 : decode cX1_wearIron 15 = .ok (.aload_n 0, 1) := by decide +kernel
theorem dX1_wearIron_16 : decode cX1_wearIron 16 = .ok (.invokevirtual 46, 3) := by decide +kernel
theorem dX1_wearIron_19 : decode cX1_wearIron 19 = .ok (.istore_n 1, 1) := by decide +kernel
theorem dX1_wearIron_20 : decode cX1_wearIron 20 = .ok (.iload_n 1, 1) := by decide +kernel
theorem dX1_wearIron_21 : decode cX1_wearIron 21 = .ok (.ifCond .le 29, 3) := by decide +kernel
theorem dX1_wearIron_24 : decode cX1_wearIron 24 = .ok (.aload_n 0, 1) := by decide +kernel
theorem dX1_wearIron_25 : decode cX1_wearIron 25 = .ok (.getfield 30, 3) := by decide +kernel
theorem dX1_wearIron_28 : decode cX1_wearIron 28 = .ok (.iload_n 1, 1) := by decide +kernel
theorem dX1_wearIron_29 : decode cX1_wearIron 29 = .ok (.irem, 1) := by decide +kernel
theorem dX1_wearIron_30 : decode cX1_wearIron 30 = .ok (.ifCond .ne 20, 3) := by decide +kernel
theorem dX1_wearIron_33 : decode cX1_wearIron 33 = .ok (.aload_n 0, 1) := by decide +kernel
theorem dX1_wearIron_34 : decode cX1_wearIron 34 = .ok (.getfield 27, 3) := by decide +kernel
theorem dX1_wearIron_37 : decode cX1_wearIron 37 = .ok (.ifCond .le 13, 3) := by decide +kernel
theorem dX1_wearIron_40 : decode cX1_wearIron 40 = .ok (.aload_n 0, 1) := by decide +kernel
theorem dX1_wearIron_41 : decode cX1_wearIron 41 = .ok (.dup, 1) := by decide +kernel
theorem dX1_wearIron_42 : decode cX1_wearIron 42 = .ok (.getfield 27, 3) := by decide +kernel
theorem dX1_wearIron_45 : decode cX1_wearIron 45 = .ok (.iconst 1, 1) := by decide +kernel
theorem dX1_wearIron_46 : decode cX1_wearIron 46 = .ok (.isub, 1) := by decide +kernel
theorem dX1_wearIron_47 : decode cX1_wearIron 47 = .ok (.putfield 27, 3) := by decide +kernel
theorem dX1_wearIron_50 : decode cX1_wearIron 50 = .ok (.return_, 1) := by decide +kernel
theorem dX1_pullOf_0 : decode cX1_pullOf 0 = .ok (.aload_n 0, 1) := by decide +kernel
theorem dX1_pullOf_1 : decode cX1_pullOf 1 = .ok (.getfield 27, 3) := by decide +kernel
theorem dX1_pullOf_4 : decode cX1_pullOf 4 = .ok (.aload_n 1, 1) := by decide +kernel
theorem dX1_pullOf_5 : decode cX1_pullOf 5 = .ok (.iload_n 2, 1) := by decide +kernel
theorem dX1_pullOf_6 : decode cX1_pullOf 6 = .ok (.aload_n 0, 1) := by decide +kernel
theorem dX1_pullOf_7 : decode cX1_pullOf 7 = .ok (.getfield 18, 3) := by decide +kernel
theorem dX1_pullOf_10 : decode cX1_pullOf 10 = .ok (.invokevirtual 50, 3) := by decide +kernel
theorem dX1_pullOf_13 : decode cX1_pullOf 13 = .ok (.imul, 1) := by decide +kernel
theorem dX1_pullOf_14 : decode cX1_pullOf 14 = .ok (.iconst 4, 1) := by decide +kernel
theorem dX1_pullOf_15 : decode cX1_pullOf 15 = .ok (.aload_n 0, 1) := by decide +kernel
theorem dX1_pullOf_16 : decode cX1_pullOf 16 = .ok (.getfield 27, 3) := by decide +kernel
theorem dX1_pullOf_19 : decode cX1_pullOf 19 = .ok (.isub, 1) := by decide +kernel
theorem dX1_pullOf_20 : decode cX1_pullOf 20 = .ok (.aload_n 1, 1) := by decide +kernel
theorem dX1_pullOf_21 : decode cX1_pullOf 21 = .ok (.iload_n 2, 1) := by decide +kernel
theorem dX1_pullOf_22 : decode cX1_pullOf 22 = .ok (.aload_n 0, 1) := by decide +kernel
theorem dX1_pullOf_23 : decode cX1_pullOf 23 = .ok (.getfield 21, 3) := by decide +kernel
theorem dX1_pullOf_26 : decode cX1_pullOf 26 = .ok (.invokevirtual 50, 3) := by decide +kernel
theorem dX1_pullOf_29 : decode cX1_pullOf 29 = .ok (.imul, 1) := by decide +kernel
theorem dX1_pullOf_30 : decode cX1_pullOf 30 = .ok (.iadd, 1) := by decide +kernel
theorem dX1_pullOf_31 : decode cX1_pullOf 31 = .ok (.ireturn, 1) := by decide +kernel
theorem dX1_nextFrom_0 : decode cX1_nextFrom 0 = .ok (.iload_n 2, 1) := by decide +kernel
theorem dX1_nextFrom_1 : decode cX1_nextFrom 1 = .ok (.istore_n 3, 1) := by decide +kernel
theorem dX1_nextFrom_2 : decode cX1_nextFrom 2 = .ok (.aload_n 0, 1) := by decide +kernel
theorem dX1_nextFrom_3 : decode cX1_nextFrom 3 = .ok (.aload_n 1, 1) := by decide +kernel
theorem dX1_nextFrom_4 : decode cX1_nextFrom 4 = .ok (.iload_n 2, 1) := by decide +kernel
theorem dX1_nextFrom_5 : decode cX1_nextFrom 5 = .ok (.invokevirtual 55, 3) := by decide +kernel
theorem dX1_nextFrom_8 : decode cX1_nextFrom 8 = .ok (.istore 4, 2) := by decide +kernel
theorem dX1_nextFrom_10 : decode cX1_nextFrom 10 = .ok (.iconst 0, 1) := by decide +kernel
theorem dX1_nextFrom_11 : decode cX1_nextFrom 11 = .ok (.istore 5, 2) := by decide +kernel
theorem dX1_nextFrom_13 : decode cX1_nextFrom 13 = .ok (.iload 5, 2) := by decide +kernel
theorem dX1_nextFrom_15 : decode cX1_nextFrom 15 = .ok (.bipush 8, 2) := by decide +kernel
theorem dX1_nextFrom_17 : decode cX1_nextFrom 17 = .ok (.if_icmp .ge 43, 3) := by decide +kernel
theorem dX1_nextFrom_20 : decode cX1_nextFrom 20 = .ok (.aload_n 1, 1) := by decide +kernel
theorem dX1_nextFrom_21 : decode cX1_nextFrom 21 = .ok (.iload_n 2, 1) := by decide +kernel
theorem dX1_nextFrom_22 : decode cX1_nextFrom 22 = .ok (.iload 5, 2) := by decide +kernel
theorem dX1_nextFrom_24 : decode cX1_nextFrom 24 = .ok (.invokevirtual 59, 3) := by decide +kernel
theorem dX1_nextFrom_27 : decode cX1_nextFrom 27 = .ok (.ifCond .eq 27, 3) := by decide +kernel
theorem dX1_nextFrom_30 : decode cX1_nextFrom 30 = .ok (.aload_n 0, 1) := by decide +kernel
theorem dX1_nextFrom_31 : decode cX1_nextFrom 31 = .ok (.aload_n 1, 1) := by decide +kernel
theorem dX1_nextFrom_32 : decode cX1_nextFrom 32 = .ok (.iload 5, 2) := by decide +kernel
theorem dX1_nextFrom_34 : decode cX1_nextFrom 34 = .ok (.invokevirtual 55, 3) := by decide +kernel
theorem dX1_nextFrom_37 : decode cX1_nextFrom 37 = .ok (.iload 4, 2) := by decide +kernel
theorem dX1_nextFrom_39 : decode cX1_nextFrom 39 = .ok (.if_icmp .ge 15, 3) := by decide +kernel
theorem dX1_nextFrom_42 : decode cX1_nextFrom 42 = .ok (.aload_n 0, 1) := by decide +kernel
theorem dX1_nextFrom_43 : decode cX1_nextFrom 43 = .ok (.aload_n 1, 1) := by decide +kernel
theorem dX1_nextFrom_44 : decode cX1_nextFrom 44 = .ok (.iload 5, 2) := by decide +kernel
theorem dX1_nextFrom_46 : decode cX1_nextFrom 46 = .ok (.invokevirtual 55, 3) := by decide +kernel
theorem dX1_nextFrom_49 : decode cX1_nextFrom 49 = .ok (.istore 4, 2) := by decide +kernel
theorem dX1_nextFrom_51 : decode cX1_nextFrom 51 = .ok (.iload 5, 2) := by decide +kernel
theorem dX1_nextFrom_53 : decode cX1_nextFrom 53 = .ok (.istore_n 3, 1) := by decide +kernel
theorem dX1_nextFrom_54 : decode cX1_nextFrom 54 = .ok (.iinc 5 1, 3) := by decide +kernel
theorem dX1_nextFrom_57 : decode cX1_nextFrom 57 = .ok (.goto (-44), 3) := by decide +kernel
theorem dX1_nextFrom_60 : decode cX1_nextFrom 60 = .ok (.iload_n 3, 1) := by decide +kernel
theorem dX1_nextFrom_61 : decode cX1_nextFrom 61 = .ok (.ireturn, 1) := by decide +kernel
theorem dX1_rideDay_0 : decode cX1_rideDay 0 = .ok (.aload_n 0, 1) := by decide +kernel
theorem dX1_rideDay_1 : decode cX1_rideDay 1 = .ok (.invokevirtual 63, 3) := by decide +kernel
theorem dX1_rideDay_4 : decode cX1_rideDay 4 = .ok (.aload_n 0, 1) := by decide +kernel
theorem dX1_rideDay_5 : decode cX1_rideDay 5 = .ok (.aload_n 0, 1) := by decide +kernel
theorem dX1_rideDay_6 : decode cX1_rideDay 6 = .ok (.aload_n 1, 1) := by decide +kernel
theorem dX1_rideDay_7 : decode cX1_rideDay 7 = .ok (.aload_n 0, 1) := by decide +kernel
theorem dX1_rideDay_8 : decode cX1_rideDay 8 = .ok (.getfield 24, 3) := by decide +kernel
theorem dX1_rideDay_11 : decode cX1_rideDay 11 = .ok (.invokevirtual 66, 3) := by decide +kernel
theorem dX1_rideDay_14 : decode cX1_rideDay 14 = .ok (.putfield 24, 3) := by decide +kernel
theorem dX1_rideDay_17 : decode cX1_rideDay 17 = .ok (.return_, 1) := by decide +kernel
theorem dX1_rideDays_0 : decode cX1_rideDays 0 = .ok (.iconst 0, 1) := by decide +kernel
theorem dX1_rideDays_1 : decode cX1_rideDays 1 = .ok (.istore_n 3, 1) := by decide +kernel
theorem dX1_rideDays_2 : decode cX1_rideDays 2 = .ok (.iload_n 3, 1) := by decide +kernel
theorem dX1_rideDays_3 : decode cX1_rideDays 3 = .ok (.iload_n 2, 1) := by decide +kernel
theorem dX1_rideDays_4 : decode cX1_rideDays 4 = .ok (.if_icmp .ge 14, 3) := by decide +kernel
theorem dX1_rideDays_7 : decode cX1_rideDays 7 = .ok (.aload_n 0, 1) := by decide +kernel
theorem dX1_rideDays_8 : decode cX1_rideDays 8 = .ok (.aload_n 1, 1) := by decide +kernel
theorem dX1_rideDays_9 : decode cX1_rideDays 9 = .ok (.invokevirtual 69, 3) := by decide +kernel
theorem dX1_rideDays_12 : decode cX1_rideDays 12 = .ok (.iinc 3 1, 3) := by decide +kernel
theorem dX1_rideDays_15 : decode cX1_rideDays 15 = .ok (.goto (-13), 3) := by decide +kernel
theorem dX1_rideDays_18 : decode cX1_rideDays 18 = .ok (.return_, 1) := by decide +kernel
theorem dX1_daysUntilAt_0 : decode cX1_daysUntilAt 0 = .ok (.iconst 0, 1) := by decide +kernel
theorem dX1_daysUntilAt_1 : decode cX1_daysUntilAt 1 = .ok (.istore_n 3, 1) := by decide +kernel
theorem dX1_daysUntilAt_2 : decode cX1_daysUntilAt 2 = .ok (.iload_n 3, 1) := by decide +kernel
theorem dX1_daysUntilAt_3 : decode cX1_daysUntilAt 3 = .ok (.bipush 60, 2) := by decide +kernel
theorem dX1_daysUntilAt_5 : decode cX1_daysUntilAt 5 = .ok (.if_icmp .gt 24, 3) := by decide +kernel
theorem dX1_daysUntilAt_8 : decode cX1_daysUntilAt 8 = .ok (.aload_n 0, 1) := by decide +kernel
theorem dX1_daysUntilAt_9 : decode cX1_daysUntilAt 9 = .ok (.getfield 24, 3) := by decide +kernel
theorem dX1_daysUntilAt_12 : decode cX1_daysUntilAt 12 = .ok (.iload_n 2, 1) := by decide +kernel
theorem dX1_daysUntilAt_13 : decode cX1_daysUntilAt 13 = .ok (.if_icmp .ne 5, 3) := by decide +kernel
theorem dX1_daysUntilAt_16 : decode cX1_daysUntilAt 16 = .ok (.iload_n 3, 1) := by decide +kernel
theorem dX1_daysUntilAt_17 : decode cX1_daysUntilAt 17 = .ok (.ireturn, 1) := by decide +kernel
theorem dX1_daysUntilAt_18 : decode cX1_daysUntilAt 18 = .ok (.aload_n 0, 1) := by decide +kernel
theorem dX1_daysUntilAt_19 : decode cX1_daysUntilAt 19 = .ok (.aload_n 1, 1) := by decide +kernel
theorem dX1_daysUntilAt_20 : decode cX1_daysUntilAt 20 = .ok (.invokevirtual 69, 3) := by decide +kernel
theorem dX1_daysUntilAt_23 : decode cX1_daysUntilAt 23 = .ok (.iinc 3 1, 3) := by decide +kernel
theorem dX1_daysUntilAt_26 : decode cX1_daysUntilAt 26 = .ok (.goto (-24), 3) := by decide +kernel
theorem dX1_daysUntilAt_29 : decode cX1_daysUntilAt 29 = .ok (.bipush 61, 2) := by decide +kernel
theorem dX1_daysUntilAt_31 : decode cX1_daysUntilAt 31 = .ok (.ireturn, 1) := by decide +kernel
theorem dX1_stepsToGo_0 : decode cX1_stepsToGo 0 = .ok (.aload_n 1, 1) := by decide +kernel
theorem dX1_stepsToGo_1 : decode cX1_stepsToGo 1 = .ok (.aload_n 0, 1) := by decide +kernel
theorem dX1_stepsToGo_2 : decode cX1_stepsToGo 2 = .ok (.getfield 24, 3) := by decide +kernel
theorem dX1_stepsToGo_5 : decode cX1_stepsToGo 5 = .ok (.aload_n 0, 1) := by decide +kernel
theorem dX1_stepsToGo_6 : decode cX1_stepsToGo 6 = .ok (.getfield 21, 3) := by decide +kernel
theorem dX1_stepsToGo_9 : decode cX1_stepsToGo 9 = .ok (.invokevirtual 50, 3) := by decide +kernel
theorem dX1_stepsToGo_12 : decode cX1_stepsToGo 12 = .ok (.ireturn, 1) := by decide +kernel
theorem dX1_isWhereHeSays_0 : decode cX1_isWhereHeSays 0 = .ok (.aload_n 0, 1) := by decide +kernel
theorem dX1_isWhereHeSays_1 : decode cX1_isWhereHeSays 1 = .ok (.getfield 24, 3) := by decide +kernel
theorem dX1_isWhereHeSays_4 : decode cX1_isWhereHeSays 4 = .ok (.aload_n 0, 1) := by decide +kernel
theorem dX1_isWhereHeSays_5 : decode cX1_isWhereHeSays 5 = .ok (.getfield 21, 3) := by decide +kernel
theorem dX1_isWhereHeSays_8 : decode cX1_isWhereHeSays 8 = .ok (.if_icmp .ne 7, 3) := by decide +kernel
theorem dX1_isWhereHeSays_11 : decode cX1_isWhereHeSays 11 = .ok (.iconst 1, 1) := by decide +kernel
theorem dX1_isWhereHeSays_12 : decode cX1_isWhereHeSays 12 = .ok (.goto 4, 3) := by decide +kernel
theorem dX1_isWhereHeSays_15 : decode cX1_isWhereHeSays 15 = .ok (.iconst 0, 1) := by decide +kernel
theorem dX1_isWhereHeSays_16 : decode cX1_isWhereHeSays 16 = .ok (.ireturn, 1) := by decide +kernel
theorem dX2_init_0 : decode cX2_init 0 = .ok (.aload_n 0, 1) := by decide +kernel
theorem dX2_init_1 : decode cX2_init 1 = .ok (.invokespecial 3, 3) := by decide +kernel
theorem dX2_init_4 : decode cX2_init 4 = .ok (.aload_n 0, 1) := by decide +kernel
theorem dX2_init_5 : decode cX2_init 5 = .ok (.bipush 8, 2) := by decide +kernel
theorem dX2_init_7 : decode cX2_init 7 = .ok (.newarray .int, 2) := by decide +kernel
theorem dX2_init_9 : decode cX2_init 9 = .ok (.putfield 9, 3) := by decide +kernel
theorem dX2_init_12 : decode cX2_init 12 = .ok (.aload_n 0, 1) := by decide +kernel
theorem dX2_init_13 : decode cX2_init 13 = .ok (.bipush 64, 2) := by decide +kernel
theorem dX2_init_15 : decode cX2_init 15 = .ok (.newarray .int, 2) := by decide +kernel
theorem dX2_init_17 : decode cX2_init 17 = .ok (.putfield 15, 3) := by decide +kernel
theorem dX2_init_20 : decode cX2_init 20 = .ok (.aload_n 0, 1) := by decide +kernel
theorem dX2_init_21 : decode cX2_init 21 = .ok (.invokevirtual 18, 3) := by decide +kernel
theorem dX2_init_24 : decode cX2_init 24 = .ok (.return_, 1) := by decide +kernel
theorem dX2_becomes_0 : decode cX2_becomes 0 = .ok (.aload_n 1, 1) := by decide +kernel
theorem dX2_becomes_1 : decode cX2_becomes 1 = .ok (.getfield 9, 3) := by decide +kernel
theorem dX2_becomes_4 : decode cX2_becomes 4 = .ok (.iconst 0, 1) := by decide +kernel
theorem dX2_becomes_5 : decode cX2_becomes 5 = .ok (.aload_n 0, 1) := by decide +kernel
theorem dX2_becomes_6 : decode cX2_becomes 6 = .ok (.getfield 9, 3) := by decide +kernel
theorem dX2_becomes_9 : decode cX2_becomes 9 = .ok (.iconst 0, 1) := by decide +kernel
theorem dX2_becomes_10 : decode cX2_becomes 10 = .ok (.bipush 8, 2) := by decide +kernel
theorem dX2_becomes_12 : decode cX2_becomes 12 = .ok (.invokestatic 21, 3) := by decide +kernel
theorem dX2_becomes_15 : decode cX2_becomes 15 = .ok (.aload_n 1, 1) := by decide +kernel
theorem dX2_becomes_16 : decode cX2_becomes 16 = .ok (.getfield 15, 3) := by decide +kernel
theorem dX2_becomes_19 : decode cX2_becomes 19 = .ok (.iconst 0, 1) := by decide +kernel
theorem dX2_becomes_20 : decode cX2_becomes 20 = .ok (.aload_n 0, 1) := by decide +kernel
theorem dX2_becomes_21 : decode cX2_becomes 21 = .ok (.getfield 15, 3) := by decide +kernel
theorem dX2_becomes_24 : decode cX2_becomes 24 = .ok (.iconst 0, 1) := by decide +kernel
theorem dX2_becomes_25 : decode cX2_becomes 25 = .ok (.bipush 64, 2) := by decide +kernel
theorem dX2_becomes_27 : decode cX2_becomes 27 = .ok (.invokestatic 21, 3) := by decide +kernel
theorem dX2_becomes_30 : decode cX2_becomes 30 = .ok (.return_, 1) := by decide +kernel
theorem dX2_joins_0 : decode cX2_joins 0 = .ok (.iload_n 1, 1) := by decide +kernel
theorem dX2_joins_1 : decode cX2_joins 1 = .ok (.invokestatic 27, 3) := by decide +kernel
theorem dX2_joins_4 : decode cX2_joins 4 = .ok (.ifCond .eq 28, 3) := by decide +kernel
theorem dX2_joins_7 : decode cX2_joins 7 = .ok (.iload_n 2, 1) := by decide +kernel
theorem dX2_joins_8 : decode cX2_joins 8 = .ok (.invokestatic 27, 3) := by decide +kernel
theorem dX2_joins_11 : decode cX2_joins 11 = .ok (.ifCond .eq 21, 3) := by decide +kernel
theorem dX2_joins_14 : decode cX2_joins 14 = .ok (.aload_n 0, 1) := by decide +kernel
theorem dX2_joins_15 : decode cX2_joins 15 = .ok (.getfield 9, 3) := by decide +kernel
theorem dX2_joins_18 : decode cX2_joins 18 = .ok (.iload_n 1, 1) := by decide +kernel
theorem dX2_joins_19 : decode cX2_joins 19 = .ok (.iaload, 1) := by decide +kernel
theorem dX2_joins_20 : decode cX2_joins 20 = .ok (.iload_n 2, 1) := by decide +kernel
theorem dX2_joins_21 : decode cX2_joins 21 = .ok (.ishr, 1) := by decide +kernel
theorem dX2_joins_22 : decode cX2_joins 22 = .ok (.iconst 1, 1) := by decide +kernel
theorem dX2_joins_23 : decode cX2_joins 23 = .ok (.iand, 1) := by decide +kernel
theorem dX2_joins_24 : decode cX2_joins 24 = .ok (.iconst 1, 1) := by decide +kernel
theorem dX2_joins_25 : decode cX2_joins 25 = .ok (.if_icmp .ne 7, 3) := by decide +kernel
theorem dX2_joins_28 : decode cX2_joins 28 = .ok (.iconst 1, 1) := by decide +kernel
theorem dX2_joins_29 : decode cX2_joins 29 = .ok (.goto 4, 3) := by decide +kernel
theorem dX2_joins_32 : decode cX2_joins 32 = .ok (.iconst 0, 1) := by decide +kernel
theorem dX2_joins_33 : decode cX2_joins 33 = .ok (.ireturn, 1) := by decide +kernel
theorem dX2_stepsBetween_0 : decode cX2_stepsBetween 0 = .ok (.iload_n 1, 1) := by decide +kernel
theorem dX2_stepsBetween_1 : decode cX2_stepsBetween 1 = .ok (.ifCond .lt 19, 3) := by decide +kernel
theorem dX2_stepsBetween_4 : decode cX2_stepsBetween 4 = .ok (.iload_n 1, 1) := by decide +kernel
theorem dX2_stepsBetween_5 : decode cX2_stepsBetween 5 = .ok (.bipush 8, 2) := by decide +kernel
theorem dX2_stepsBetween_7 : decode cX2_stepsBetween 7 = .ok (.if_icmp .ge 13, 3) := by decide +kernel
theorem dX2_stepsBetween_10 : decode cX2_stepsBetween 10 = .ok (.iload_n 2, 1) := by decide +kernel
theorem dX2_stepsBetween_11 : decode cX2_stepsBetween 11 = .ok (.ifCond .lt 9, 3) := by decide +kernel
theorem dX2_stepsBetween_14 : decode cX2_stepsBetween 14 = .ok (.iload_n 2, 1) := by decide +kernel
theorem dX2_stepsBetween_15 : decode cX2_stepsBetween 15 = .ok (.bipush 8, 2) := by decide +kernel
theorem dX2_stepsBetween_17 : decode cX2_stepsBetween 17 = .ok (.if_icmp .lt 6, 3) := by decide +kernel
theorem dX2_stepsBetween_20 : decode cX2_stepsBetween 20 = .ok (.bipush 9, 2) := by decide +kernel
theorem dX2_stepsBetween_22 : decode cX2_stepsBetween 22 = .ok (.ireturn, 1) := by decide +kernel
theorem dX2_stepsBetween_23 : decode cX2_stepsBetween 23 = .ok (.aload_n 0, 1) := by decide +kernel
theorem dX2_stepsBetween_24 : decode cX2_stepsBetween 24 = .ok (.getfield 15, 3) := by decide +kernel
theorem dX2_stepsBetween_27 : decode cX2_stepsBetween 27 = .ok (.iload_n 1, 1) := by decide +kernel
theorem dX2_stepsBetween_28 : decode cX2_stepsBetween 28 = .ok (.bipush 8, 2) := by decide +kernel
theorem dX2_stepsBetween_30 : decode cX2_stepsBetween 30 = .ok (.imul, 1) := by decide +kernel
theorem dX2_stepsBetween_31 : decode cX2_stepsBetween 31 = .ok (.iload_n 2, 1) := by decide +kernel
theorem dX2_stepsBetween_32 : decode cX2_stepsBetween 32 = .ok (.iadd, 1) := by decide +kernel
theorem dX2_stepsBetween_33 : decode cX2_stepsBetween 33 = .ok (.iaload, 1) := by decide +kernel
theorem dX2_stepsBetween_34 : decode cX2_stepsBetween 34 = .ok (.ireturn, 1) := by decide +kernel
theorem dX2_change_0 : decode cX2_change 0 = .ok (.iload_n 1, 1) := by decide +kernel
theorem dX2_change_1 : decode cX2_change 1 = .ok (.invokestatic 27, 3) := by decide +kernel
theorem dX2_change_4 : decode cX2_change 4 = .ok (.ifCond .eq 43, 3) := by decide +kernel
theorem dX2_change_7 : decode cX2_change 7 = .ok (.iload_n 2, 1) := by decide +kernel
theorem dX2_change_8 : decode cX2_change 8 = .ok (.invokestatic 27, 3) := by decide +kernel
theorem dX2_change_11 : decode cX2_change 11 = .ok (.ifCond .eq 36, 3) := by decide +kernel
theorem dX2_change_14 : decode cX2_change 14 = .ok (.iload_n 1, 1) := by decide +kernel
theorem dX2_change_15 : decode cX2_change 15 = .ok (.iload_n 2, 1) := by decide +kernel
theorem dX2_change_16 : decode cX2_change 16 = .ok (.if_icmp .eq 31, 3) := by decide +kernel
theorem dX2_change_19 : decode cX2_change 19 = .ok (.aload_n 0, 1) := by decide +kernel
theorem dX2_change_20 : decode cX2_change 20 = .ok (.getfield 9, 3) := by decide +kernel
theorem dX2_change_23 : decode cX2_change 23 = .ok (.iload_n 1, 1) := by decide +kernel
theorem dX2_change_24 : decode cX2_change 24 = .ok (.dup2, 1) := by decide +kernel
theorem dX2_change_25 : decode cX2_change 25 = .ok (.iaload, 1) := by decide +kernel
theorem dX2_change_26 : decode cX2_change 26 = .ok (.iconst 1, 1) := by decide +kernel
theorem dX2_change_27 : decode cX2_change 27 = .ok (.iload_n 2, 1) := by decide +kernel
theorem dX2_change_28 : decode cX2_change 28 = .ok (.ishl, 1) := by decide +kernel
theorem dX2_change_29 : decode cX2_change 29 = .ok (.ixor, 1) := by decide +kernel
theorem dX2_change_30 : decode cX2_change 30 = .ok (.iastore, 1) := by decide +kernel
theorem dX2_change_31 : decode cX2_change 31 = .ok (.aload_n 0, 1) := by decide +kernel
theorem dX2_change_32 : decode cX2_change 32 = .ok (.getfield 9, 3) := by decide +kernel
theorem dX2_change_35 : decode cX2_change 35 = .ok (.iload_n 2, 1) := by decide +kernel
theorem dX2_change_36 : decode cX2_change 36 = .ok (.dup2, 1) := by decide +kernel
theorem dX2_change_37 : decode cX2_change 37 = .ok (.iaload, 1) := by decide +kernel
theorem dX2_change_38 : decode cX2_change 38 = .ok (.iconst 1, 1) := by decide +kernel
theorem dX2_change_39 : decode cX2_change 39 = .ok (.iload_n 1, 1) := by decide +kernel
theorem dX2_change_40 : decode cX2_change 40 = .ok (.ishl, 1) := by decide +kernel
theorem dX2_change_41 : decode cX2_change 41 = .ok (.ixor, 1) := by decide +kernel
theorem dX2_change_42 : decode cX2_change 42 = .ok (.iastore, 1) := by decide +kernel
theorem dX2_change_43 : decode cX2_change 43 = .ok (.aload_n 0, 1) := by decide +kernel
theorem dX2_change_44 : decode cX2_change 44 = .ok (.invokevirtual 18, 3) := by decide +kernel
theorem dX2_change_47 : decode cX2_change 47 = .ok (.return_, 1) := by decide +kernel
theorem dX2_roadCount_0 : decode cX2_roadCount 0 = .ok (.iconst 0, 1) := by decide +kernel
theorem dX2_roadCount_1 : decode cX2_roadCount 1 = .ok (.istore_n 1, 1) := by decide +kernel
theorem dX2_roadCount_2 : decode cX2_roadCount 2 = .ok (.iconst 0, 1) := by decide +kernel
theorem dX2_roadCount_3 : decode cX2_roadCount 3 = .ok (.istore_n 2, 1) := by decide +kernel
theorem dX2_roadCount_4 : decode cX2_roadCount 4 = .ok (.iload_n 2, 1) := by decide +kernel
theorem dX2_roadCount_5 : decode cX2_roadCount 5 = .ok (.bipush 8, 2) := by decide +kernel
theorem dX2_roadCount_7 : decode cX2_roadCount 7 = .ok (.if_icmp .ge 21, 3) := by decide +kernel
theorem dX2_roadCount_10 : decode cX2_roadCount 10 = .ok (.iload_n 1, 1) := by decide +kernel
theorem dX2_roadCount_11 : decode cX2_roadCount 11 = .ok (.aload_n 0, 1) := by decide +kernel
theorem dX2_roadCount_12 : decode cX2_roadCount 12 = .ok (.getfield 9, 3) := by decide +kernel
theorem dX2_roadCount_15 : decode cX2_roadCount 15 = .ok (.iload_n 2, 1) := by decide +kernel
theorem dX2_roadCount_16 : decode cX2_roadCount 16 = .ok (.iaload, 1) := by decide +kernel
theorem dX2_roadCount_17 : decode cX2_roadCount 17 = .ok (.invokestatic 31, 3) := by decide +kernel
theorem dX2_roadCount_20 : decode cX2_roadCount 20 = .ok (.iadd, 1) := by decide +kernel
theorem dX2_roadCount_21 : decode cX2_roadCount 21 = .ok (.istore_n 1, 1) := by decide +kernel
theorem dX2_roadCount_22 : decode cX2_roadCount 22 = .ok (.iinc 2 1, 3) := by decide +kernel
theorem dX2_roadCount_25 : decode cX2_roadCount 25 = .ok (.goto (-21), 3) := by decide +kernel
theorem dX2_roadCount_28 : decode cX2_roadCount 28 = .ok (.iload_n 1, 1) := by decide +kernel
theorem dX2_roadCount_29 : decode cX2_roadCount 29 = .ok (.iconst 2, 1) := by decide +kernel
theorem dX2_roadCount_30 : decode cX2_roadCount 30 = .ok (.idiv, 1) := by decide +kernel
theorem dX2_roadCount_31 : decode cX2_roadCount 31 = .ok (.ireturn, 1) := by decide +kernel
theorem dX2_mostSteps_0 : decode cX2_mostSteps 0 = .ok (.iconst 0, 1) := by decide +kernel
theorem dX2_mostSteps_1 : decode cX2_mostSteps 1 = .ok (.istore_n 1, 1) := by decide +kernel
theorem dX2_mostSteps_2 : decode cX2_mostSteps 2 = .ok (.iconst 0, 1) := by decide +kernel
theorem dX2_mostSteps_3 : decode cX2_mostSteps 3 = .ok (.istore_n 2, 1) := by decide +kernel
theorem dX2_mostSteps_4 : decode cX2_mostSteps 4 = .ok (.iload_n 2, 1) := by decide +kernel
theorem dX2_mostSteps_5 : decode cX2_mostSteps 5 = .ok (.bipush 64, 2) := by decide +kernel
theorem dX2_mostSteps_7 : decode cX2_mostSteps 7 = .ok (.if_icmp .ge 31, 3) := by decide +kernel
theorem dX2_mostSteps_10 : decode cX2_mostSteps 10 = .ok (.aload_n 0, 1) := by decide +kernel
theorem dX2_mostSteps_11 : decode cX2_mostSteps 11 = .ok (.getfield 15, 3) := by decide +kernel
theorem dX2_mostSteps_14 : decode cX2_mostSteps 14 = .ok (.iload_n 2, 1) := by decide +kernel
theorem dX2_mostSteps_15 : decode cX2_mostSteps 15 = .ok (.iaload, 1) := by decide +kernel
theorem dX2_mostSteps_16 : decode cX2_mostSteps 16 = .ok (.bipush 9, 2) := by decide +kernel
theorem dX2_mostSteps_18 : decode cX2_mostSteps 18 = .ok (.if_icmp .eq 14, 3) := by decide +kernel
theorem dX2_mostSteps_21 : decode cX2_mostSteps 21 = .ok (.iload_n 1, 1) := by decide +kernel
theorem dX2_mostSteps_22 : decode cX2_mostSteps 22 = .ok (.aload_n 0, 1) := by decide +kernel
theorem dX2_mostSteps_23 : decode cX2_mostSteps 23 = .ok (.getfield 15, 3) := by decide +kernel
theorem dX2_mostSteps_26 : decode cX2_mostSteps 26 = .ok (.iload_n 2, 1) := by decide +kernel
theorem dX2_mostSteps_27 : decode cX2_mostSteps 27 = .ok (.iaload, 1) := by decide +kernel
theorem dX2_mostSteps_28 : decode cX2_mostSteps 28 = .ok (.invokestatic 37, 3) := by decide +kernel
theorem dX2_mostSteps_31 : decode cX2_mostSteps 31 = .ok (.istore_n 1, 1) := by decide +kernel
theorem dX2_mostSteps_32 : decode cX2_mostSteps 32 = .ok (.iinc 2 1, 3) := by decide +kernel
theorem dX2_mostSteps_35 : decode cX2_mostSteps 35 = .ok (.goto (-31), 3) := by decide +kernel
theorem dX2_mostSteps_38 : decode cX2_mostSteps 38 = .ok (.iload_n 1, 1) := by decide +kernel
theorem dX2_mostSteps_39 : decode cX2_mostSteps 39 = .ok (.ireturn, 1) := by decide +kernel
theorem dX2_farBits_0 : decode cX2_farBits 0 = .ok (.iconst 0, 1) := by decide +kernel
theorem dX2_farBits_1 : decode cX2_farBits 1 = .ok (.istore_n 1, 1) := by decide +kernel
theorem dX2_farBits_2 : decode cX2_farBits 2 = .ok (.iconst 0, 1) := by decide +kernel
theorem dX2_farBits_3 : decode cX2_farBits 3 = .ok (.istore_n 2, 1) := by decide +kernel
theorem dX2_farBits_4 : decode cX2_farBits 4 = .ok (.iload_n 2, 1) := by decide +kernel
theorem dX2_farBits_5 : decode cX2_farBits 5 = .ok (.bipush 8, 2) := by decide +kernel
theorem dX2_farBits_7 : decode cX2_farBits 7 = .ok (.if_icmp .ge 26, 3) := by decide +kernel
theorem dX2_farBits_10 : decode cX2_farBits 10 = .ok (.aload_n 0, 1) := by decide +kernel
theorem dX2_farBits_11 : decode cX2_farBits 11 = .ok (.iconst 0, 1) := by decide +kernel
theorem dX2_farBits_12 : decode cX2_farBits 12 = .ok (.iload_n 2, 1) := by decide +kernel
theorem dX2_farBits_13 : decode cX2_farBits 13 = .ok (.invokevirtual 43, 3) := by decide +kernel
theorem dX2_farBits_16 : decode cX2_farBits 16 = .ok (.bipush 9, 2) := by decide +kernel
theorem dX2_farBits_18 : decode cX2_farBits 18 = .ok (.if_icmp .ne 9, 3) := by decide +kernel
theorem dX2_farBits_21 : decode cX2_farBits 21 = .ok (.iload_n 1, 1) := by decide +kernel
theorem dX2_farBits_22 : decode cX2_farBits 22 = .ok (.iconst 1, 1) := by decide +kernel
theorem dX2_farBits_23 : decode cX2_farBits 23 = .ok (.iload_n 2, 1) := by decide +kernel
theorem dX2_farBits_24 : decode cX2_farBits 24 = .ok (.ishl, 1) := by decide +kernel
theorem dX2_farBits_25 : decode cX2_farBits 25 = .ok (.ior, 1) := by decide +kernel
theorem dX2_farBits_26 : decode cX2_farBits 26 = .ok (.istore_n 1, 1) := by decide +kernel
theorem dX2_farBits_27 : decode cX2_farBits 27 = .ok (.iinc 2 1, 3) := by decide +kernel
theorem dX2_farBits_30 : decode cX2_farBits 30 = .ok (.goto (-26), 3) := by decide +kernel
theorem dX2_farBits_33 : decode cX2_farBits 33 = .ok (.iload_n 1, 1) := by decide +kernel
theorem dX2_farBits_34 : decode cX2_farBits 34 = .ok (.ireturn, 1) := by decide +kernel
theorem dX2_reckonSteps_0 : decode cX2_reckonSteps 0 = .ok (.iconst 0, 1) := by decide +kernel
theorem dX2_reckonSteps_1 : decode cX2_reckonSteps 1 = .ok (.istore_n 1, 1) := by decide +kernel
theorem dX2_reckonSteps_2 : decode cX2_reckonSteps 2 = .ok (.iload_n 1, 1) := by decide +kernel
theorem dX2_reckonSteps_3 : decode cX2_reckonSteps 3 = .ok (.bipush 8, 2) := by decide +kernel
theorem dX2_reckonSteps_5 : decode cX2_reckonSteps 5 = .ok (.if_icmp .ge 60, 3) := by decide +kernel
theorem dX2_reckonSteps_8 : decode cX2_reckonSteps 8 = .ok (.iconst 0, 1) := by decide +kernel
theorem dX2_reckonSteps_9 : decode cX2_reckonSteps 9 = .ok (.istore_n 2, 1) := by decide +kernel
theorem dX2_reckonSteps_10 : decode cX2_reckonSteps 10 = .ok (.iload_n 2, 1) := by decide +kernel
theorem dX2_reckonSteps_11 : decode cX2_reckonSteps 11 = .ok (.bipush 8, 2) := by decide +kernel
theorem dX2_reckonSteps_13 : decode cX2_reckonSteps 13 = .ok (.if_icmp .ge 46, 3) := by decide +kernel
theorem dX2_reckonSteps_16 : decode cX2_reckonSteps 16 = .ok (.aload_n 0, 1) := by decide +kernel
theorem dX2_reckonSteps_17 : decode cX2_reckonSteps 17 = .ok (.iload_n 1, 1) := by decide +kernel
theorem dX2_reckonSteps_18 : decode cX2_reckonSteps 18 = .ok (.iload_n 2, 1) := by decide +kernel
theorem dX2_reckonSteps_19 : decode cX2_reckonSteps 19 = .ok (.invokevirtual 46, 3) := by decide +kernel
theorem dX2_reckonSteps_22 : decode cX2_reckonSteps 22 = .ok (.ifCond .eq 7, 3) := by decide +kernel
theorem dX2_reckonSteps_25 : decode cX2_reckonSteps 25 = .ok (.iconst 1, 1) := by decide +kernel
theorem dX2_reckonSteps_26 : decode cX2_reckonSteps 26 = .ok (.goto 5, 3) := by decide +kernel
theorem dX2_reckonSteps_29 : decode cX2_reckonSteps 29 = .ok (.bipush 9, 2) := by decide +kernel
theorem dX2_reckonSteps_31 : decode cX2_reckonSteps 31 = .ok (.istore_n 3, 1) := by decide +kernel
theorem dX2_reckonSteps_32 : decode cX2_reckonSteps 32 = .ok (.aload_n 0, 1) := by decide +kernel
theorem dX2_reckonSteps_33 : decode cX2_reckonSteps 33 = .ok (.getfield 15, 3) := by decide +kernel
theorem dX2_reckonSteps_36 : decode cX2_reckonSteps 36 = .ok (.iload_n 1, 1) := by decide +kernel
theorem dX2_reckonSteps_37 : decode cX2_reckonSteps 37 = .ok (.bipush 8, 2) := by decide +kernel
theorem dX2_reckonSteps_39 : decode cX2_reckonSteps 39 = .ok (.imul, 1) := by decide +kernel
theorem dX2_reckonSteps_40 : decode cX2_reckonSteps 40 = .ok (.iload_n 2, 1) := by decide +kernel
theorem dX2_reckonSteps_41 : decode cX2_reckonSteps 41 = .ok (.iadd, 1) := by decide +kernel
theorem dX2_reckonSteps_42 : decode cX2_reckonSteps 42 = .ok (.iload_n 1, 1) := by decide +kernel
theorem dX2_reckonSteps_43 : decode cX2_reckonSteps 43 = .ok (.iload_n 2, 1) := by decide +kernel
theorem dX2_reckonSteps_44 : decode cX2_reckonSteps 44 = .ok (.if_icmp .ne 7, 3) := by decide +kernel
theorem dX2_reckonSteps_47 : decode cX2_reckonSteps 47 = .ok (.iconst 0, 1) := by decide +kernel
theorem dX2_reckonSteps_48 : decode cX2_reckonSteps 48 = .ok (.goto 4, 3) := by decide +kernel
theorem dX2_reckonSteps_51 : decode cX2_reckonSteps 51 = .ok (.iload_n 3, 1) := by decide +kernel
theorem dX2_reckonSteps_52 : decode cX2_reckonSteps 52 = .ok (.iastore, 1) := by decide +kernel
theorem dX2_reckonSteps_53 : decode cX2_reckonSteps 53 = .ok (.iinc 2 1, 3) := by decide +kernel
theorem dX2_reckonSteps_56 : decode cX2_reckonSteps 56 = .ok (.goto (-46), 3) := by decide +kernel
theorem dX2_reckonSteps_59 : decode cX2_reckonSteps 59 = .ok (.iinc 1 1, 3) := by decide +kernel
theorem dX2_reckonSteps_62 : decode cX2_reckonSteps 62 = .ok (.goto (-60), 3) := by decide +kernel
theorem dX2_reckonSteps_65 : decode cX2_reckonSteps 65 = .ok (.iconst 0, 1) := by decide +kernel
theorem dX2_reckonSteps_66 : decode cX2_reckonSteps 66 = .ok (.istore_n 1, 1) := by decide +kernel
theorem dX2_reckonSteps_67 : decode cX2_reckonSteps 67 = .ok (.iload_n 1, 1) := by decide +kernel
theorem dX2_reckonSteps_68 : decode cX2_reckonSteps 68 = .ok (.bipush 8, 2) := by decide +kernel
theorem dX2_reckonSteps_70 : decode cX2_reckonSteps 70 = .ok (.if_icmp .ge 89, 3) := by decide +kernel
theorem dX2_reckonSteps_73 : decode cX2_reckonSteps 73 = .ok (.iconst 0, 1) := by decide +kernel
theorem dX2_reckonSteps_74 : decode cX2_reckonSteps 74 = .ok (.istore_n 2, 1) := by decide +kernel
theorem dX2_reckonSteps_75 : decode cX2_reckonSteps 75 = .ok (.iload_n 2, 1) := by decide +kernel
theorem dX2_reckonSteps_76 : decode cX2_reckonSteps 76 = .ok (.bipush 8, 2) := by decide +kernel
theorem dX2_reckonSteps_78 : decode cX2_reckonSteps 78 = .ok (.if_icmp .ge 75, 3) := by decide +kernel
theorem dX2_reckonSteps_81 : decode cX2_reckonSteps 81 = .ok (.iconst 0, 1) := by decide +kernel
theorem dX2_reckonSteps_82 : decode cX2_reckonSteps 82 = .ok (.istore_n 3, 1) := by decide +kernel
theorem dX2_reckonSteps_83 : decode cX2_reckonSteps 83 = .ok (.iload_n 3, 1) := by decide +kernel
theorem dX2_reckonSteps_84 : decode cX2_reckonSteps 84 = .ok (.bipush 8, 2) := by decide +kernel
theorem dX2_reckonSteps_86 : decode cX2_reckonSteps 86 = .ok (.if_icmp .ge 61, 3) := by decide +kernel
theorem dX2_reckonSteps_89 : decode cX2_reckonSteps 89 = .ok (.aload_n 0, 1) := by decide +kernel
theorem dX2_reckonSteps_90 : decode cX2_reckonSteps 90 = .ok (.getfield 15, 3) := by decide +kernel
theorem dX2_reckonSteps_93 : decode cX2_reckonSteps 93 = .ok (.iload_n 2, 1) := by decide +kernel
theorem dX2_reckonSteps_94 : decode cX2_reckonSteps 94 = .ok (.bipush 8, 2) := by decide +kernel
theorem dX2_reckonSteps_96 : decode cX2_reckonSteps 96 = .ok (.imul, 1) := by decide +kernel
theorem dX2_reckonSteps_97 : decode cX2_reckonSteps 97 = .ok (.iload_n 1, 1) := by decide +kernel
theorem dX2_reckonSteps_98 : decode cX2_reckonSteps 98 = .ok (.iadd, 1) := by decide +kernel
theorem dX2_reckonSteps_99 : decode cX2_reckonSteps 99 = .ok (.iaload, 1) := by decide +kernel
theorem dX2_reckonSteps_100 : decode cX2_reckonSteps 100 = .ok (.aload_n 0, 1) := by decide +kernel
theorem dX2_reckonSteps_101 : decode cX2_reckonSteps 101 = .ok (.getfield 15, 3) := by decide +kernel
theorem dX2_reckonSteps_104 : decode cX2_reckonSteps 104 = .ok (.iload_n 1, 1) := by decide +kernel
theorem dX2_reckonSteps_105 : decode cX2_reckonSteps 105 = .ok (.bipush 8, 2) := by decide +kernel
theorem dX2_reckonSteps_107 : decode cX2_reckonSteps 107 = .ok (.imul, 1) := by decide +kernel
theorem dX2_reckonSteps_108 : decode cX2_reckonSteps 108 = .ok (.iload_n 3, 1) := by decide +kernel
theorem dX2_reckonSteps_109 : decode cX2_reckonSteps 109 = .ok (.iadd, 1) := by decide +kernel
theorem dX2_reckonSteps_110 : decode cX2_reckonSteps 110 = .ok (.iaload, 1) := by decide +kernel
theorem dX2_reckonSteps_111 : decode cX2_reckonSteps 111 = .ok (.iadd, 1) := by decide +kernel
theorem dX2_reckonSteps_112 : decode cX2_reckonSteps 112 = .ok (.istore 4, 2) := by decide +kernel
theorem dX2_reckonSteps_114 : decode cX2_reckonSteps 114 = .ok (.aload_n 0, 1) := by decide +kernel
theorem dX2_reckonSteps_115 : decode cX2_reckonSteps 115 = .ok (.getfield 15, 3) := by decide +kernel
theorem dX2_reckonSteps_118 : decode cX2_reckonSteps 118 = .ok (.iload_n 2, 1) := by decide +kernel
theorem dX2_reckonSteps_119 : decode cX2_reckonSteps 119 = .ok (.bipush 8, 2) := by decide +kernel
theorem dX2_reckonSteps_121 : decode cX2_reckonSteps 121 = .ok (.imul, 1) := by decide +kernel
theorem dX2_reckonSteps_122 : decode cX2_reckonSteps 122 = .ok (.iload_n 3, 1) := by decide +kernel
theorem dX2_reckonSteps_123 : decode cX2_reckonSteps 123 = .ok (.iadd, 1) := by decide +kernel
theorem dX2_reckonSteps_124 : decode cX2_reckonSteps 124 = .ok (.aload_n 0, 1) := by decide +kernel
theorem dX2_reckonSteps_125 : decode cX2_reckonSteps 125 = .ok (.getfield 15, 3) := by decide +kernel
theorem dX2_reckonSteps_128 : decode cX2_reckonSteps 128 = .ok (.iload_n 2, 1) := by decide +kernel
theorem dX2_reckonSteps_129 : decode cX2_reckonSteps 129 = .ok (.bipush 8, 2) := by decide +kernel
theorem dX2_reckonSteps_131 : decode cX2_reckonSteps 131 = .ok (.imul, 1) := by decide +kernel
theorem dX2_reckonSteps_132 : decode cX2_reckonSteps 132 = .ok (.iload_n 3, 1) := by decide +kernel
theorem dX2_reckonSteps_133 : decode cX2_reckonSteps 133 = .ok (.iadd, 1) := by decide +kernel
theorem dX2_reckonSteps_134 : decode cX2_reckonSteps 134 = .ok (.iaload, 1) := by decide +kernel
theorem dX2_reckonSteps_135 : decode cX2_reckonSteps 135 = .ok (.iload 4, 2) := by decide +kernel
theorem dX2_reckonSteps_137 : decode cX2_reckonSteps 137 = .ok (.invokestatic 50, 3) := by decide +kernel
theorem dX2_reckonSteps_140 : decode cX2_reckonSteps 140 = .ok (.iastore, 1) := by decide +kernel
theorem dX2_reckonSteps_141 : decode cX2_reckonSteps 141 = .ok (.iinc 3 1, 3) := by decide +kernel
theorem dX2_reckonSteps_144 : decode cX2_reckonSteps 144 = .ok (.goto (-61), 3) := by decide +kernel
theorem dX2_reckonSteps_147 : decode cX2_reckonSteps 147 = .ok (.iinc 2 1, 3) := by decide +kernel
theorem dX2_reckonSteps_150 : decode cX2_reckonSteps 150 = .ok (.goto (-75), 3) := by decide +kernel
theorem dX2_reckonSteps_153 : decode cX2_reckonSteps 153 = .ok (.iinc 1 1, 3) := by decide +kernel
theorem dX2_reckonSteps_156 : decode cX2_reckonSteps 156 = .ok (.goto (-89), 3) := by decide +kernel
theorem dX2_reckonSteps_159 : decode cX2_reckonSteps 159 = .ok (.return_, 1) := by decide +kernel
theorem dX3_init_0 : decode cX3_init 0 = .ok (.aload_n 0, 1) := by decide +kernel
theorem dX3_init_1 : decode cX3_init 1 = .ok (.invokespecial 3, 3) := by decide +kernel
theorem dX3_init_4 : decode cX3_init 4 = .ok (.aload_n 0, 1) := by decide +kernel
theorem dX3_init_5 : decode cX3_init 5 = .ok (.bipush 96, 2) := by decide +kernel
theorem dX3_init_7 : decode cX3_init 7 = .ok (.newarray .int, 2) := by decide +kernel
theorem dX3_init_9 : decode cX3_init 9 = .ok (.putfield 9, 3) := by decide +kernel
theorem dX3_init_12 : decode cX3_init 12 = .ok (.return_, 1) := by decide +kernel
theorem dX3_isFull_0 : decode cX3_isFull 0 = .ok (.aload_n 0, 1) := by decide +kernel
theorem dX3_isFull_1 : decode cX3_isFull 1 = .ok (.getfield 15, 3) := by decide +kernel
theorem dX3_isFull_4 : decode cX3_isFull 4 = .ok (.bipush 96, 2) := by decide +kernel
theorem dX3_isFull_6 : decode cX3_isFull 6 = .ok (.if_icmp .lt 7, 3) := by decide +kernel
theorem dX3_isFull_9 : decode cX3_isFull 9 = .ok (.iconst 1, 1) := by decide +kernel
theorem dX3_isFull_10 : decode cX3_isFull 10 = .ok (.goto 4, 3) := by decide +kernel
theorem dX3_isFull_13 : decode cX3_isFull 13 = .ok (.iconst 0, 1) := by decide +kernel
theorem dX3_isFull_14 : decode cX3_isFull 14 = .ok (.ireturn, 1) := by decide +kernel
theorem dX3_add_0 : decode cX3_add 0 = .ok (.aload_n 0, 1) := by decide +kernel
theorem dX3_add_1 : decode cX3_add 1 = .ok (.invokevirtual 19, 3) := by decide +kernel
theorem dX3_add_4 : decode cX3_add 4 = .ok (.ifCond .ne 23, 3) := by decide +kernel
theorem dX3_add_7 : decode cX3_add 7 = .ok (.aload_n 0, 1) := by decide +kernel
theorem dX3_add_8 : decode cX3_add 8 = .ok (.getfield 9, 3) := by decide +kernel
theorem dX3_add_11 : decode cX3_add 11 = .ok (.aload_n 0, 1) := by decide +kernel
theorem dX3_add_12 : decode cX3_add 12 = .ok (.getfield 15, 3) := by decide +kernel
theorem dX3_add_15 : decode cX3_add 15 = .ok (.iload_n 1, 1) := by decide +kernel
theorem dX3_add_16 : decode cX3_add 16 = .ok (.iastore, 1) := by decide +kernel
theorem dX3_add_17 : decode cX3_add 17 = .ok (.aload_n 0, 1) := by decide +kernel
theorem dX3_add_18 : decode cX3_add 18 = .ok (.dup, 1) := by decide +kernel
theorem dX3_add_19 : decode cX3_add 19 = .ok (.getfield 15, 3) := by decide +kernel
theorem dX3_add_22 : decode cX3_add 22 = .ok (.iconst 1, 1) := by decide +kernel
theorem dX3_add_23 : decode cX3_add 23 = .ok (.iadd, 1) := by decide +kernel
theorem dX3_add_24 : decode cX3_add 24 = .ok (.putfield 15, 3) := by decide +kernel
theorem dX3_add_27 : decode cX3_add 27 = .ok (.aload_n 0, 1) := by decide +kernel
theorem dX3_add_28 : decode cX3_add 28 = .ok (.getfield 15, 3) := by decide +kernel
theorem dX3_add_31 : decode cX3_add 31 = .ok (.ireturn, 1) := by decide +kernel
theorem dX3_forget_0 : decode cX3_forget 0 = .ok (.aload_n 0, 1) := by decide +kernel
theorem dX3_forget_1 : decode cX3_forget 1 = .ok (.iconst 0, 1) := by decide +kernel
theorem dX3_forget_2 : decode cX3_forget 2 = .ok (.putfield 15, 3) := by decide +kernel
theorem dX3_forget_5 : decode cX3_forget 5 = .ok (.return_, 1) := by decide +kernel
theorem dX3_tellTo_0 : decode cX3_tellTo 0 = .ok (.aload_n 0, 1) := by decide +kernel
theorem dX3_tellTo_1 : decode cX3_tellTo 1 = .ok (.invokevirtual 23, 3) := by decide +kernel
theorem dX3_tellTo_4 : decode cX3_tellTo 4 = .ok (.istore_n 2, 1) := by decide +kernel
theorem dX3_tellTo_5 : decode cX3_tellTo 5 = .ok (.iload_n 2, 1) := by decide +kernel
theorem dX3_tellTo_6 : decode cX3_tellTo 6 = .ok (.ifCond .lt 9, 3) := by decide +kernel
theorem dX3_tellTo_9 : decode cX3_tellTo 9 = .ok (.sipush (-1000), 3) := by decide +kernel
theorem dX3_tellTo_12 : decode cX3_tellTo 12 = .ok (.iload_n 2, 1) := by decide +kernel
theorem dX3_tellTo_13 : decode cX3_tellTo 13 = .ok (.isub, 1) := by decide +kernel
theorem dX3_tellTo_14 : decode cX3_tellTo 14 = .ok (.ireturn, 1) := by decide +kernel
theorem dX3_tellTo_15 : decode cX3_tellTo 15 = .ok (.iconst 0, 1) := by decide +kernel
theorem dX3_tellTo_16 : decode cX3_tellTo 16 = .ok (.istore_n 3, 1) := by decide +kernel
theorem dX3_tellTo_17 : decode cX3_tellTo 17 = .ok (.iconst 0, 1) := by decide +kernel
theorem dX3_tellTo_18 : decode cX3_tellTo 18 = .ok (.istore 4, 2) := by decide +kernel
theorem dX3_tellTo_20 : decode cX3_tellTo 20 = .ok (.iload 4, 2) := by decide +kernel
theorem dX3_tellTo_22 : decode cX3_tellTo 22 = .ok (.aload_n 0, 1) := by decide +kernel
theorem dX3_tellTo_23 : decode cX3_tellTo 23 = .ok (.getfield 15, 3) := by decide +kernel
theorem dX3_tellTo_26 : decode cX3_tellTo 26 = .ok (.if_icmp .ge 42, 3) := by decide +kernel
theorem dX3_tellTo_29 : decode cX3_tellTo 29 = .ok (.aload_n 0, 1) := by decide +kernel
theorem dX3_tellTo_30 : decode cX3_tellTo 30 = .ok (.aload_n 1, 1) := by decide +kernel
theorem dX3_tellTo_31 : decode cX3_tellTo 31 = .ok (.iload 4, 2) := by decide +kernel
theorem dX3_tellTo_33 : decode cX3_tellTo 33 = .ok (.invokevirtual 27, 3) := by decide +kernel
theorem dX3_tellTo_36 : decode cX3_tellTo 36 = .ok (.ifCond .ne 10, 3) := by decide +kernel
theorem dX3_tellTo_39 : decode cX3_tellTo 39 = .ok (.sipush (-2000), 3) := by decide +kernel
theorem dX3_tellTo_42 : decode cX3_tellTo 42 = .ok (.iload 4, 2) := by decide +kernel
theorem dX3_tellTo_44 : decode cX3_tellTo 44 = .ok (.isub, 1) := by decide +kernel
theorem dX3_tellTo_45 : decode cX3_tellTo 45 = .ok (.ireturn, 1) := by decide +kernel
theorem dX3_tellTo_46 : decode cX3_tellTo 46 = .ok (.iinc 3 1, 3) := by decide +kernel
theorem dX3_tellTo_49 : decode cX3_tellTo 49 = .ok (.iload 4, 2) := by decide +kernel
theorem dX3_tellTo_51 : decode cX3_tellTo 51 = .ok (.aload_n 0, 1) := by decide +kernel
theorem dX3_tellTo_52 : decode cX3_tellTo 52 = .ok (.iload 4, 2) := by decide +kernel
theorem dX3_tellTo_54 : decode cX3_tellTo 54 = .ok (.invokevirtual 31, 3) := by decide +kernel
theorem dX3_tellTo_57 : decode cX3_tellTo 57 = .ok (.invokestatic 35, 3) := by decide +kernel
theorem dX3_tellTo_60 : decode cX3_tellTo 60 = .ok (.iconst 1, 1) := by decide +kernel
theorem dX3_tellTo_61 : decode cX3_tellTo 61 = .ok (.iadd, 1) := by decide +kernel
theorem dX3_tellTo_62 : decode cX3_tellTo 62 = .ok (.iadd, 1) := by decide +kernel
theorem dX3_tellTo_63 : decode cX3_tellTo 63 = .ok (.istore 4, 2) := by decide +kernel
theorem dX3_tellTo_65 : decode cX3_tellTo 65 = .ok (.goto (-45), 3) := by decide +kernel
theorem dX3_tellTo_68 : decode cX3_tellTo 68 = .ok (.iload_n 3, 1) := by decide +kernel
theorem dX3_tellTo_69 : decode cX3_tellTo 69 = .ok (.ireturn, 1) := by decide +kernel
theorem dX3_signAt_0 : decode cX3_signAt 0 = .ok (.iload_n 1, 1) := by decide +kernel
theorem dX3_signAt_1 : decode cX3_signAt 1 = .ok (.aload_n 0, 1) := by decide +kernel
theorem dX3_signAt_2 : decode cX3_signAt 2 = .ok (.getfield 15, 3) := by decide +kernel
theorem dX3_signAt_5 : decode cX3_signAt 5 = .ok (.invokestatic 38, 3) := by decide +kernel
theorem dX3_signAt_8 : decode cX3_signAt 8 = .ok (.ifCond .eq 18, 3) := by decide +kernel
theorem dX3_signAt_11 : decode cX3_signAt 11 = .ok (.iload_n 1, 1) := by decide +kernel
theorem dX3_signAt_12 : decode cX3_signAt 12 = .ok (.bipush 96, 2) := by decide +kernel
theorem dX3_signAt_14 : decode cX3_signAt 14 = .ok (.if_icmp .ge 12, 3) := by decide +kernel
theorem dX3_signAt_17 : decode cX3_signAt 17 = .ok (.aload_n 0, 1) := by decide +kernel
theorem dX3_signAt_18 : decode cX3_signAt 18 = .ok (.getfield 9, 3) := by decide +kernel
theorem dX3_signAt_21 : decode cX3_signAt 21 = .ok (.iload_n 1, 1) := by decide +kernel
theorem dX3_signAt_22 : decode cX3_signAt 22 = .ok (.iaload, 1) := by decide +kernel
theorem dX3_signAt_23 : decode cX3_signAt 23 = .ok (.goto 5, 3) := by decide +kernel
theorem dX3_signAt_26 : decode cX3_signAt 26 = .ok (.bipush (-9), 2) := by decide +kernel
theorem dX3_signAt_28 : decode cX3_signAt 28 = .ok (.ireturn, 1) := by decide +kernel
theorem dX3_digitAt_0 : decode cX3_digitAt 0 = .ok (.aload_n 0, 1) := by decide +kernel
theorem dX3_digitAt_1 : decode cX3_digitAt 1 = .ok (.iload_n 1, 1) := by decide +kernel
theorem dX3_digitAt_2 : decode cX3_digitAt 2 = .ok (.invokevirtual 31, 3) := by decide +kernel
theorem dX3_digitAt_5 : decode cX3_digitAt 5 = .ok (.bipush 48, 2) := by decide +kernel
theorem dX3_digitAt_7 : decode cX3_digitAt 7 = .ok (.isub, 1) := by decide +kernel
theorem dX3_digitAt_8 : decode cX3_digitAt 8 = .ok (.ireturn, 1) := by decide +kernel
theorem dX3_lettersOf_0 : decode cX3_lettersOf 0 = .ok (.iload_n 0, 1) := by decide +kernel
theorem dX3_lettersOf_1 : decode cX3_lettersOf 1 = .ok (.lookupswitch 72 #[(97, 68), (100, 70), (104, 61), (114, 59), (115, 64), (119, 66)], 59) := by decide +kernel
theorem dX3_lettersOf_60 : decode cX3_lettersOf 60 = .ok (.iconst 3, 1) := by decide +kernel
theorem dX3_lettersOf_61 : decode cX3_lettersOf 61 = .ok (.ireturn, 1) := by decide +kernel
theorem dX3_lettersOf_62 : decode cX3_lettersOf 62 = .ok (.bipush 6, 2) := by decide +kernel
theorem dX3_lettersOf_64 : decode cX3_lettersOf 64 = .ok (.ireturn, 1) := by decide +kernel
theorem dX3_lettersOf_65 : decode cX3_lettersOf 65 = .ok (.iconst 2, 1) := by decide +kernel
theorem dX3_lettersOf_66 : decode cX3_lettersOf 66 = .ok (.ireturn, 1) := by decide +kernel
theorem dX3_lettersOf_67 : decode cX3_lettersOf 67 = .ok (.iconst 3, 1) := by decide +kernel
theorem dX3_lettersOf_68 : decode cX3_lettersOf 68 = .ok (.ireturn, 1) := by decide +kernel
theorem dX3_lettersOf_69 : decode cX3_lettersOf 69 = .ok (.iconst 3, 1) := by decide +kernel
theorem dX3_lettersOf_70 : decode cX3_lettersOf 70 = .ok (.ireturn, 1) := by decide +kernel
theorem dX3_lettersOf_71 : decode cX3_lettersOf 71 = .ok (.iconst 3, 1) := by decide +kernel
theorem dX3_lettersOf_72 : decode cX3_lettersOf 72 = .ok (.ireturn, 1) := by decide +kernel
theorem dX3_lettersOf_73 : decode cX3_lettersOf 73 = .ok (.iconst 0, 1) := by decide +kernel
theorem dX3_lettersOf_74 : decode cX3_lettersOf 74 = .ok (.ireturn, 1) := by decide +kernel
theorem dX3_firstUnfit_0 : decode cX3_firstUnfit 0 = .ok (.iconst 0, 1) := by decide +kernel
theorem dX3_firstUnfit_1 : decode cX3_firstUnfit 1 = .ok (.istore_n 1, 1) := by decide +kernel
theorem dX3_firstUnfit_2 : decode cX3_firstUnfit 2 = .ok (.iconst 0, 1) := by decide +kernel
theorem dX3_firstUnfit_3 : decode cX3_firstUnfit 3 = .ok (.istore_n 2, 1) := by decide +kernel
theorem dX3_firstUnfit_4 : decode cX3_firstUnfit 4 = .ok (.iload_n 2, 1) := by decide +kernel
theorem dX3_firstUnfit_5 : decode cX3_firstUnfit 5 = .ok (.aload_n 0, 1) := by decide +kernel
theorem dX3_firstUnfit_6 : decode cX3_firstUnfit 6 = .ok (.getfield 15, 3) := by decide +kernel
theorem dX3_firstUnfit_9 : decode cX3_firstUnfit 9 = .ok (.if_icmp .ge 34, 3) := by decide +kernel
theorem dX3_firstUnfit_12 : decode cX3_firstUnfit 12 = .ok (.aload_n 0, 1) := by decide +kernel
theorem dX3_firstUnfit_13 : decode cX3_firstUnfit 13 = .ok (.iload_n 1, 1) := by decide +kernel
theorem dX3_firstUnfit_14 : decode cX3_firstUnfit 14 = .ok (.iload_n 2, 1) := by decide +kernel
theorem dX3_firstUnfit_15 : decode cX3_firstUnfit 15 = .ok (.invokevirtual 42, 3) := by decide +kernel
theorem dX3_firstUnfit_18 : decode cX3_firstUnfit 18 = .ok (.ifCond .ne 5, 3) := by decide +kernel
theorem dX3_firstUnfit_21 : decode cX3_firstUnfit 21 = .ok (.iload_n 2, 1) := by decide +kernel
theorem dX3_firstUnfit_22 : decode cX3_firstUnfit 22 = .ok (.ireturn, 1) := by decide +kernel
theorem dX3_firstUnfit_23 : decode cX3_firstUnfit 23 = .ok (.aload_n 0, 1) := by decide +kernel
theorem dX3_firstUnfit_24 : decode cX3_firstUnfit 24 = .ok (.iload_n 2, 1) := by decide +kernel
theorem dX3_firstUnfit_25 : decode cX3_firstUnfit 25 = .ok (.invokevirtual 31, 3) := by decide +kernel
theorem dX3_firstUnfit_28 : decode cX3_firstUnfit 28 = .ok (.bipush 59, 2) := by decide +kernel
theorem dX3_firstUnfit_30 : decode cX3_firstUnfit 30 = .ok (.if_icmp .ne 7, 3) := by decide +kernel
theorem dX3_firstUnfit_33 : decode cX3_firstUnfit 33 = .ok (.iload_n 2, 1) := by decide +kernel
theorem dX3_firstUnfit_34 : decode cX3_firstUnfit 34 = .ok (.iconst 1, 1) := by decide +kernel
theorem dX3_firstUnfit_35 : decode cX3_firstUnfit 35 = .ok (.iadd, 1) := by decide +kernel
theorem dX3_firstUnfit_36 : decode cX3_firstUnfit 36 = .ok (.istore_n 1, 1) := by decide +kernel
theorem dX3_firstUnfit_37 : decode cX3_firstUnfit 37 = .ok (.iinc 2 1, 3) := by decide +kernel
theorem dX3_firstUnfit_40 : decode cX3_firstUnfit 40 = .ok (.goto (-36), 3) := by decide +kernel
theorem dX3_firstUnfit_43 : decode cX3_firstUnfit 43 = .ok (.aload_n 0, 1) := by decide +kernel
theorem dX3_firstUnfit_44 : decode cX3_firstUnfit 44 = .ok (.getfield 15, 3) := by decide +kernel
theorem dX3_firstUnfit_47 : decode cX3_firstUnfit 47 = .ok (.ifCond .le 16, 3) := by decide +kernel
theorem dX3_firstUnfit_50 : decode cX3_firstUnfit 50 = .ok (.iload_n 1, 1) := by decide +kernel
theorem dX3_firstUnfit_51 : decode cX3_firstUnfit 51 = .ok (.aload_n 0, 1) := by decide +kernel
theorem dX3_firstUnfit_52 : decode cX3_firstUnfit 52 = .ok (.getfield 15, 3) := by decide +kernel
theorem dX3_firstUnfit_55 : decode cX3_firstUnfit 55 = .ok (.if_icmp .ne 8, 3) := by decide +kernel
theorem dX3_firstUnfit_58 : decode cX3_firstUnfit 58 = .ok (.bipush (-9), 2) := by decide +kernel
theorem dX3_firstUnfit_60 : decode cX3_firstUnfit 60 = .ok (.goto 7, 3) := by decide +kernel
theorem dX3_firstUnfit_63 : decode cX3_firstUnfit 63 = .ok (.aload_n 0, 1) := by decide +kernel
theorem dX3_firstUnfit_64 : decode cX3_firstUnfit 64 = .ok (.getfield 15, 3) := by decide +kernel
theorem dX3_firstUnfit_67 : decode cX3_firstUnfit 67 = .ok (.ireturn, 1) := by decide +kernel
theorem dX3_fits_0 : decode cX3_fits 0 = .ok (.aload_n 0, 1) := by decide +kernel
theorem dX3_fits_1 : decode cX3_fits 1 = .ok (.iload_n 1, 1) := by decide +kernel
theorem dX3_fits_2 : decode cX3_fits 2 = .ok (.invokevirtual 31, 3) := by decide +kernel
theorem dX3_fits_5 : decode cX3_fits 5 = .ok (.istore_n 3, 1) := by decide +kernel
theorem dX3_fits_6 : decode cX3_fits 6 = .ok (.aload_n 0, 1) := by decide +kernel
theorem dX3_fits_7 : decode cX3_fits 7 = .ok (.iload_n 2, 1) := by decide +kernel
theorem dX3_fits_8 : decode cX3_fits 8 = .ok (.invokevirtual 31, 3) := by decide +kernel
theorem dX3_fits_11 : decode cX3_fits 11 = .ok (.istore 4, 2) := by decide +kernel
theorem dX3_fits_13 : decode cX3_fits 13 = .ok (.iload_n 2, 1) := by decide +kernel
theorem dX3_fits_14 : decode cX3_fits 14 = .ok (.iload_n 1, 1) := by decide +kernel
theorem dX3_fits_15 : decode cX3_fits 15 = .ok (.isub, 1) := by decide +kernel
theorem dX3_fits_16 : decode cX3_fits 16 = .ok (.istore 5, 2) := by decide +kernel
theorem dX3_fits_18 : decode cX3_fits 18 = .ok (.iload 5, 2) := by decide +kernel
theorem dX3_fits_20 : decode cX3_fits 20 = .ok (.ifCond .ne 16, 3) := by decide +kernel
theorem dX3_fits_23 : decode cX3_fits 23 = .ok (.iload_n 3, 1) := by decide +kernel
theorem dX3_fits_24 : decode cX3_fits 24 = .ok (.invokestatic 35, 3) := by decide +kernel
theorem dX3_fits_27 : decode cX3_fits 27 = .ok (.ifCond .le 7, 3) := by decide +kernel
theorem dX3_fits_30 : decode cX3_fits 30 = .ok (.iconst 1, 1) := by decide +kernel
theorem dX3_fits_31 : decode cX3_fits 31 = .ok (.goto 4, 3) := by decide +kernel
theorem dX3_fits_34 : decode cX3_fits 34 = .ok (.iconst 0, 1) := by decide +kernel
theorem dX3_fits_35 : decode cX3_fits 35 = .ok (.ireturn, 1) := by decide +kernel
theorem dX3_fits_36 : decode cX3_fits 36 = .ok (.iload 5, 2) := by decide +kernel
theorem dX3_fits_38 : decode cX3_fits 38 = .ok (.iload_n 3, 1) := by decide +kernel
theorem dX3_fits_39 : decode cX3_fits 39 = .ok (.invokestatic 35, 3) := by decide +kernel
theorem dX3_fits_42 : decode cX3_fits 42 = .ok (.if_icmp .ne 16, 3) := by decide +kernel
theorem dX3_fits_45 : decode cX3_fits 45 = .ok (.iload 4, 2) := by decide +kernel
theorem dX3_fits_47 : decode cX3_fits 47 = .ok (.bipush 59, 2) := by decide +kernel
theorem dX3_fits_49 : decode cX3_fits 49 = .ok (.if_icmp .ne 7, 3) := by decide +kernel
theorem dX3_fits_52 : decode cX3_fits 52 = .ok (.iconst 1, 1) := by decide +kernel
theorem dX3_fits_53 : decode cX3_fits 53 = .ok (.goto 4, 3) := by decide +kernel
theorem dX3_fits_56 : decode cX3_fits 56 = .ok (.iconst 0, 1) := by decide +kernel
theorem dX3_fits_57 : decode cX3_fits 57 = .ok (.ireturn, 1) := by decide +kernel
theorem dX3_fits_58 : decode cX3_fits 58 = .ok (.iload 5, 2) := by decide +kernel
theorem dX3_fits_60 : decode cX3_fits 60 = .ok (.iconst 1, 1) := by decide +kernel
theorem dX3_fits_61 : decode cX3_fits 61 = .ok (.if_icmp .ne 23, 3) := by decide +kernel
theorem dX3_fits_64 : decode cX3_fits 64 = .ok (.iload_n 3, 1) := by decide +kernel
theorem dX3_fits_65 : decode cX3_fits 65 = .ok (.bipush 104, 2) := by decide +kernel
theorem dX3_fits_67 : decode cX3_fits 67 = .ok (.if_icmp .ne 17, 3) := by decide +kernel
theorem dX3_fits_70 : decode cX3_fits 70 = .ok (.iload 4, 2) := by decide +kernel
theorem dX3_fits_72 : decode cX3_fits 72 = .ok (.invokestatic 45, 3) := by decide +kernel
theorem dX3_fits_75 : decode cX3_fits 75 = .ok (.ifCond .lt 7, 3) := by decide +kernel
theorem dX3_fits_78 : decode cX3_fits 78 = .ok (.iconst 1, 1) := by decide +kernel
theorem dX3_fits_79 : decode cX3_fits 79 = .ok (.goto 4, 3) := by decide +kernel
theorem dX3_fits_82 : decode cX3_fits 82 = .ok (.iconst 0, 1) := by decide +kernel
theorem dX3_fits_83 : decode cX3_fits 83 = .ok (.ireturn, 1) := by decide +kernel
theorem dX3_fits_84 : decode cX3_fits 84 = .ok (.iload 4, 2) := by decide +kernel
theorem dX3_fits_86 : decode cX3_fits 86 = .ok (.bipush 48, 2) := by decide +kernel
theorem dX3_fits_88 : decode cX3_fits 88 = .ok (.if_icmp .lt 14, 3) := by decide +kernel
theorem dX3_fits_91 : decode cX3_fits 91 = .ok (.iload 4, 2) := by decide +kernel
theorem dX3_fits_93 : decode cX3_fits 93 = .ok (.bipush 57, 2) := by decide +kernel
theorem dX3_fits_95 : decode cX3_fits 95 = .ok (.if_icmp .gt 7, 3) := by decide +kernel
theorem dX3_fits_98 : decode cX3_fits 98 = .ok (.iconst 1, 1) := by decide +kernel
theorem dX3_fits_99 : decode cX3_fits 99 = .ok (.goto 4, 3) := by decide +kernel
theorem dX3_fits_102 : decode cX3_fits 102 = .ok (.iconst 0, 1) := by decide +kernel
theorem dX3_fits_103 : decode cX3_fits 103 = .ok (.ireturn, 1) := by decide +kernel
theorem dX3_tellStatement_0 : decode cX3_tellStatement 0 = .ok (.aload_n 0, 1) := by decide +kernel
theorem dX3_tellStatement_1 : decode cX3_tellStatement 1 = .ok (.iload_n 2, 1) := by decide +kernel
theorem dX3_tellStatement_2 : decode cX3_tellStatement 2 = .ok (.iconst 1, 1) := by decide +kernel
theorem dX3_tellStatement_3 : decode cX3_tellStatement 3 = .ok (.iadd, 1) := by decide +kernel
theorem dX3_tellStatement_4 : decode cX3_tellStatement 4 = .ok (.invokevirtual 48, 3) := by decide +kernel
theorem dX3_tellStatement_7 : decode cX3_tellStatement 7 = .ok (.istore_n 3, 1) := by decide +kernel
theorem dX3_tellStatement_8 : decode cX3_tellStatement 8 = .ok (.aload_n 0, 1) := by decide +kernel
theorem dX3_tellStatement_9 : decode cX3_tellStatement 9 = .ok (.iload_n 2, 1) := by decide +kernel
theorem dX3_tellStatement_10 : decode cX3_tellStatement 10 = .ok (.iconst 2, 1) := by decide +kernel
theorem dX3_tellStatement_11 : decode cX3_tellStatement 11 = .ok (.iadd, 1) := by decide +kernel
theorem dX3_tellStatement_12 : decode cX3_tellStatement 12 = .ok (.invokevirtual 48, 3) := by decide +kernel
theorem dX3_tellStatement_15 : decode cX3_tellStatement 15 = .ok (.istore 4, 2) := by decide +kernel
theorem dX3_tellStatement_17 : decode cX3_tellStatement 17 = .ok (.aload_n 0, 1) := by decide +kernel
theorem dX3_tellStatement_18 : decode cX3_tellStatement 18 = .ok (.iload_n 2, 1) := by decide +kernel
theorem dX3_tellStatement_19 : decode cX3_tellStatement 19 = .ok (.invokevirtual 31, 3) := by decide +kernel
theorem dX3_tellStatement_22 : decode cX3_tellStatement 22 = .ok (.lookupswitch 107 #[(97, 87), (100, 95), (104, 66), (114, 58), (115, 73), (119, 79)], 58) := by decide +kernel
theorem dX3_tellStatement_80 : decode cX3_tellStatement 80 = .ok (.aload_n 1, 1) := by decide +kernel
theorem dX3_tellStatement_81 : decode cX3_tellStatement 81 = .ok (.iload_n 3, 1) := by decide +kernel
theorem dX3_tellStatement_82 : decode cX3_tellStatement 82 = .ok (.iload 4, 2) := by decide +kernel
theorem dX3_tellStatement_84 : decode cX3_tellStatement 84 = .ok (.invokevirtual 51, 3) := by decide +kernel
theorem dX3_tellStatement_87 : decode cX3_tellStatement 87 = .ok (.ireturn, 1) := by decide +kernel
theorem dX3_tellStatement_88 : decode cX3_tellStatement 88 = .ok (.aload_n 0, 1) := by decide +kernel
theorem dX3_tellStatement_89 : decode cX3_tellStatement 89 = .ok (.aload_n 1, 1) := by decide +kernel
theorem dX3_tellStatement_90 : decode cX3_tellStatement 90 = .ok (.iload_n 2, 1) := by decide +kernel
theorem dX3_tellStatement_91 : decode cX3_tellStatement 91 = .ok (.invokevirtual 56, 3) := by decide +kernel
theorem dX3_tellStatement_94 : decode cX3_tellStatement 94 = .ok (.ireturn, 1) := by decide +kernel
theorem dX3_tellStatement_95 : decode cX3_tellStatement 95 = .ok (.aload_n 1, 1) := by decide +kernel
theorem dX3_tellStatement_96 : decode cX3_tellStatement 96 = .ok (.iload_n 3, 1) := by decide +kernel
theorem dX3_tellStatement_97 : decode cX3_tellStatement 97 = .ok (.invokevirtual 59, 3) := by decide +kernel
theorem dX3_tellStatement_100 : decode cX3_tellStatement 100 = .ok (.ireturn, 1) := by decide +kernel
theorem dX3_tellStatement_101 : decode cX3_tellStatement 101 = .ok (.aload_n 1, 1) := by decide +kernel
theorem dX3_tellStatement_102 : decode cX3_tellStatement 102 = .ok (.iload_n 3, 1) := by decide +kernel
theorem dX3_tellStatement_103 : decode cX3_tellStatement 103 = .ok (.iload 4, 2) := by decide +kernel
theorem dX3_tellStatement_105 : decode cX3_tellStatement 105 = .ok (.invokevirtual 63, 3) := by decide +kernel
theorem dX3_tellStatement_108 : decode cX3_tellStatement 108 = .ok (.ireturn, 1) := by decide +kernel
theorem dX3_tellStatement_109 : decode cX3_tellStatement 109 = .ok (.aload_n 1, 1) := by decide +kernel
theorem dX3_tellStatement_110 : decode cX3_tellStatement 110 = .ok (.iload_n 3, 1) := by decide +kernel
theorem dX3_tellStatement_111 : decode cX3_tellStatement 111 = .ok (.iload 4, 2) := by decide +kernel
theorem dX3_tellStatement_113 : decode cX3_tellStatement 113 = .ok (.invokevirtual 66, 3) := by decide +kernel
theorem dX3_tellStatement_116 : decode cX3_tellStatement 116 = .ok (.ireturn, 1) := by decide +kernel
theorem dX3_tellStatement_117 : decode cX3_tellStatement 117 = .ok (.aload_n 1, 1) := by decide +kernel
theorem dX3_tellStatement_118 : decode cX3_tellStatement 118 = .ok (.bipush 10, 2) := by decide +kernel
theorem dX3_tellStatement_120 : decode cX3_tellStatement 120 = .ok (.iload_n 3, 1) := by decide +kernel
theorem dX3_tellStatement_121 : decode cX3_tellStatement 121 = .ok (.imul, 1) := by decide +kernel
theorem dX3_tellStatement_122 : decode cX3_tellStatement 122 = .ok (.iload 4, 2) := by decide +kernel
theorem dX3_tellStatement_124 : decode cX3_tellStatement 124 = .ok (.iadd, 1) := by decide +kernel
theorem dX3_tellStatement_125 : decode cX3_tellStatement 125 = .ok (.invokevirtual 69, 3) := by decide +kernel
theorem dX3_tellStatement_128 : decode cX3_tellStatement 128 = .ok (.ireturn, 1) := by decide +kernel
theorem dX3_tellStatement_129 : decode cX3_tellStatement 129 = .ok (.iconst 0, 1) := by decide +kernel
theorem dX3_tellStatement_130 : decode cX3_tellStatement 130 = .ok (.ireturn, 1) := by decide +kernel
theorem dX3_tellRider_0 : decode cX3_tellRider 0 = .ok (.aload_n 0, 1) := by decide +kernel
theorem dX3_tellRider_1 : decode cX3_tellRider 1 = .ok (.iload_n 2, 1) := by decide +kernel
theorem dX3_tellRider_2 : decode cX3_tellRider 2 = .ok (.iconst 1, 1) := by decide +kernel
theorem dX3_tellRider_3 : decode cX3_tellRider 3 = .ok (.iadd, 1) := by decide +kernel
theorem dX3_tellRider_4 : decode cX3_tellRider 4 = .ok (.invokevirtual 31, 3) := by decide +kernel
theorem dX3_tellRider_7 : decode cX3_tellRider 7 = .ok (.invokestatic 45, 3) := by decide +kernel
theorem dX3_tellRider_10 : decode cX3_tellRider 10 = .ok (.istore_n 3, 1) := by decide +kernel
theorem dX3_tellRider_11 : decode cX3_tellRider 11 = .ok (.aload_n 1, 1) := by decide +kernel
theorem dX3_tellRider_12 : decode cX3_tellRider 12 = .ok (.iload_n 3, 1) := by decide +kernel
theorem dX3_tellRider_13 : decode cX3_tellRider 13 = .ok (.aload_n 0, 1) := by decide +kernel
theorem dX3_tellRider_14 : decode cX3_tellRider 14 = .ok (.iload_n 2, 1) := by decide +kernel
theorem dX3_tellRider_15 : decode cX3_tellRider 15 = .ok (.iconst 2, 1) := by decide +kernel
theorem dX3_tellRider_16 : decode cX3_tellRider 16 = .ok (.iadd, 1) := by decide +kernel
theorem dX3_tellRider_17 : decode cX3_tellRider 17 = .ok (.invokevirtual 48, 3) := by decide +kernel
theorem dX3_tellRider_20 : decode cX3_tellRider 20 = .ok (.aload_n 0, 1) := by decide +kernel
theorem dX3_tellRider_21 : decode cX3_tellRider 21 = .ok (.iload_n 2, 1) := by decide +kernel
theorem dX3_tellRider_22 : decode cX3_tellRider 22 = .ok (.iconst 3, 1) := by decide +kernel
theorem dX3_tellRider_23 : decode cX3_tellRider 23 = .ok (.iadd, 1) := by decide +kernel
theorem dX3_tellRider_24 : decode cX3_tellRider 24 = .ok (.invokevirtual 48, 3) := by decide +kernel
theorem dX3_tellRider_27 : decode cX3_tellRider 27 = .ok (.aload_n 0, 1) := by decide +kernel
theorem dX3_tellRider_28 : decode cX3_tellRider 28 = .ok (.iload_n 2, 1) := by decide +kernel
theorem dX3_tellRider_29 : decode cX3_tellRider 29 = .ok (.iconst 4, 1) := by decide +kernel
theorem dX3_tellRider_30 : decode cX3_tellRider 30 = .ok (.iadd, 1) := by decide +kernel
theorem dX3_tellRider_31 : decode cX3_tellRider 31 = .ok (.invokevirtual 48, 3) := by decide +kernel
theorem dX3_tellRider_34 : decode cX3_tellRider 34 = .ok (.aload_n 0, 1) := by decide +kernel
theorem dX3_tellRider_35 : decode cX3_tellRider 35 = .ok (.iload_n 2, 1) := by decide +kernel
theorem dX3_tellRider_36 : decode cX3_tellRider 36 = .ok (.iconst 5, 1) := by decide +kernel
theorem dX3_tellRider_37 : decode cX3_tellRider 37 = .ok (.iadd, 1) := by decide +kernel
theorem dX3_tellRider_38 : decode cX3_tellRider 38 = .ok (.invokevirtual 48, 3) := by decide +kernel
theorem dX3_tellRider_41 : decode cX3_tellRider 41 = .ok (.invokevirtual 72, 3) := by decide +kernel
theorem dX3_tellRider_44 : decode cX3_tellRider 44 = .ok (.ireturn, 1) := by decide +kernel
