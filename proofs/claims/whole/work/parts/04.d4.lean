theorem dX4_init_0 : decode cX4_init 0 = .ok (.aload_n 0, 1) := by decide +kernel
theorem dX4_init_1 : decode cX4_init 1 = .ok (.invokespecial 3, 3) := by decide +kernel
theorem dX4_init_4 : decode cX4_init 4 = .ok (.aload_n 0, 1) := by decide +kernel
theorem dX4_init_5 : decode cX4_init 5 = .ok (.new 9, 3) := by decide +kernel
theorem dX4_init_8 : decode cX4_init 8 = .ok (.dup, 1) := by decide +kernel
theorem dX4_init_9 : decode cX4_init 9 = .ok (.invokespecial 11, 3) := by decide +kernel
theorem dX4_init_12 : decode cX4_init 12 = .ok (.putfield 12, 3) := by decide +kernel
theorem dX4_init_15 : decode cX4_init 15 = .ok (.aload_n 0, 1) := by decide +kernel
theorem dX4_init_16 : decode cX4_init 16 = .ok (.new 9, 3) := by decide +kernel
theorem dX4_init_19 : decode cX4_init 19 = .ok (.dup, 1) := by decide +kernel
theorem dX4_init_20 : decode cX4_init 20 = .ok (.invokespecial 11, 3) := by decide +kernel
theorem dX4_init_23 : decode cX4_init 23 = .ok (.putfield 16, 3) := by decide +kernel
theorem dX4_init_26 : decode cX4_init 26 = .ok (.aload_n 0, 1) := by decide +kernel
theorem dX4_init_27 : decode cX4_init 27 = .ok (.new 9, 3) := by decide +kernel
theorem dX4_init_30 : decode cX4_init 30 = .ok (.dup, 1) := by decide +kernel
theorem dX4_init_31 : decode cX4_init 31 = .ok (.invokespecial 11, 3) := by decide +kernel
theorem dX4_init_34 : decode cX4_init 34 = .ok (.putfield 19, 3) := by decide +kernel
theorem dX4_init_37 : decode cX4_init 37 = .ok (.aload_n 0, 1) := by decide +kernel
theorem dX4_init_38 : decode cX4_init 38 = .ok (.new 22, 3) := by decide +kernel
theorem dX4_init_41 : decode cX4_init 41 = .ok (.dup, 1) := by decide +kernel
theorem dX4_init_42 : decode cX4_init 42 = .ok (.invokespecial 24, 3) := by decide +kernel
theorem dX4_init_45 : decode cX4_init 45 = .ok (.putfield 25, 3) := by decide +kernel
theorem dX4_init_48 : decode cX4_init 48 = .ok (.aload_n 0, 1) := by decide +kernel
theorem dX4_init_49 : decode cX4_init 49 = .ok (.new 29, 3) := by decide +kernel
theorem dX4_init_52 : decode cX4_init 52 = .ok (.dup, 1) := by decide +kernel
theorem dX4_init_53 : decode cX4_init 53 = .ok (.invokespecial 31, 3) := by decide +kernel
theorem dX4_init_56 : decode cX4_init 56 = .ok (.putfield 32, 3) := by decide +kernel
theorem dX4_init_59 : decode cX4_init 59 = .ok (.aload_n 0, 1) := by decide +kernel
theorem dX4_init_60 : decode cX4_init 60 = .ok (.new 29, 3) := by decide +kernel
theorem dX4_init_63 : decode cX4_init 63 = .ok (.dup, 1) := by decide +kernel
theorem dX4_init_64 : decode cX4_init 64 = .ok (.invokespecial 31, 3) := by decide +kernel
theorem dX4_init_67 : decode cX4_init 67 = .ok (.putfield 36, 3) := by decide +kernel
theorem dX4_init_70 : decode cX4_init 70 = .ok (.aload_n 0, 1) := by decide +kernel
theorem dX4_init_71 : decode cX4_init 71 = .ok (.new 39, 3) := by decide +kernel
theorem dX4_init_74 : decode cX4_init 74 = .ok (.dup, 1) := by decide +kernel
theorem dX4_init_75 : decode cX4_init 75 = .ok (.invokespecial 41, 3) := by decide +kernel
theorem dX4_init_78 : decode cX4_init 78 = .ok (.putfield 42, 3) := by decide +kernel
theorem dX4_init_81 : decode cX4_init 81 = .ok (.aload_n 0, 1) := by decide +kernel
theorem dX4_init_82 : decode cX4_init 82 = .ok (.bipush 16, 2) := by decide +kernel
theorem dX4_init_84 : decode cX4_init 84 = .ok (.newarray .int, 2) := by decide +kernel
theorem dX4_init_86 : decode cX4_init 86 = .ok (.putfield 46, 3) := by decide +kernel
theorem dX4_init_89 : decode cX4_init 89 = .ok (.aload_n 0, 1) := by decide +kernel
theorem dX4_init_90 : decode cX4_init 90 = .ok (.bipush 7, 2) := by decide +kernel
theorem dX4_init_92 : decode cX4_init 92 = .ok (.newarray .int, 2) := by decide +kernel
theorem dX4_init_94 : decode cX4_init 94 = .ok (.putfield 50, 3) := by decide +kernel
theorem dX4_init_97 : decode cX4_init 97 = .ok (.aload_n 0, 1) := by decide +kernel
theorem dX4_init_98 : decode cX4_init 98 = .ok (.bipush 8, 2) := by decide +kernel
theorem dX4_init_100 : decode cX4_init 100 = .ok (.newarray .int, 2) := by decide +kernel
theorem dX4_init_102 : decode cX4_init 102 = .ok (.putfield 53, 3) := by decide +kernel
theorem dX4_init_105 : decode cX4_init 105 = .ok (.aload_n 0, 1) := by decide +kernel
theorem dX4_init_106 : decode cX4_init 106 = .ok (.bipush 8, 2) := by decide +kernel
theorem dX4_init_108 : decode cX4_init 108 = .ok (.newarray .long, 2) := by decide +kernel
theorem dX4_init_110 : decode cX4_init 110 = .ok (.putfield 56, 3) := by decide +kernel
theorem dX4_init_113 : decode cX4_init 113 = .ok (.aload_n 0, 1) := by decide +kernel
theorem dX4_init_114 : decode cX4_init 114 = .ok (.bipush 8, 2) := by decide +kernel
theorem dX4_init_116 : decode cX4_init 116 = .ok (.newarray .long, 2) := by decide +kernel
theorem dX4_init_118 : decode cX4_init 118 = .ok (.putfield 60, 3) := by decide +kernel
theorem dX4_init_121 : decode cX4_init 121 = .ok (.return_, 1) := by decide +kernel
theorem dX4_letter_0 : decode cX4_letter 0 = .ok (.iload_n 1, 1) := by decide +kernel
theorem dX4_letter_1 : decode cX4_letter 1 = .ok (.ifCond .ge 10, 3) := by decide +kernel
theorem dX4_letter_4 : decode cX4_letter 4 = .ok (.aload_n 0, 1) := by decide +kernel
theorem dX4_letter_5 : decode cX4_letter 5 = .ok (.bipush (-4), 2) := by decide +kernel
theorem dX4_letter_7 : decode cX4_letter 7 = .ok (.invokevirtual 63, 3) := by decide +kernel
theorem dX4_letter_10 : decode cX4_letter 10 = .ok (.ireturn, 1) := by decide +kernel
theorem dX4_letter_11 : decode cX4_letter 11 = .ok (.iload_n 1, 1) := by decide +kernel
theorem dX4_letter_12 : decode cX4_letter 12 = .ok (.sipush 255, 3) := by decide +kernel
theorem dX4_letter_15 : decode cX4_letter 15 = .ok (.if_icmp .gt 13, 3) := by decide +kernel
theorem dX4_letter_18 : decode cX4_letter 18 = .ok (.aload_n 0, 1) := by decide +kernel
theorem dX4_letter_19 : decode cX4_letter 19 = .ok (.getfield 42, 3) := by decide +kernel
theorem dX4_letter_22 : decode cX4_letter 22 = .ok (.invokevirtual 67, 3) := by decide +kernel
theorem dX4_letter_25 : decode cX4_letter 25 = .ok (.ifCond .eq 10, 3) := by decide +kernel
theorem dX4_letter_28 : decode cX4_letter 28 = .ok (.aload_n 0, 1) := by decide +kernel
theorem dX4_letter_29 : decode cX4_letter 29 = .ok (.bipush (-6), 2) := by decide +kernel
theorem dX4_letter_31 : decode cX4_letter 31 = .ok (.invokevirtual 63, 3) := by decide +kernel
theorem dX4_letter_34 : decode cX4_letter 34 = .ok (.ireturn, 1) := by decide +kernel
theorem dX4_letter_35 : decode cX4_letter 35 = .ok (.aload_n 0, 1) := by decide +kernel
theorem dX4_letter_36 : decode cX4_letter 36 = .ok (.getfield 42, 3) := by decide +kernel
theorem dX4_letter_39 : decode cX4_letter 39 = .ok (.iload_n 1, 1) := by decide +kernel
theorem dX4_letter_40 : decode cX4_letter 40 = .ok (.invokevirtual 71, 3) := by decide +kernel
theorem dX4_letter_43 : decode cX4_letter 43 = .ok (.ireturn, 1) := by decide +kernel
theorem dX4_county_0 : decode cX4_county 0 = .ok (.aload_n 0, 1) := by decide +kernel
theorem dX4_county_1 : decode cX4_county 1 = .ok (.getfield 19, 3) := by decide +kernel
theorem dX4_county_4 : decode cX4_county 4 = .ok (.aload_n 0, 1) := by decide +kernel
theorem dX4_county_5 : decode cX4_county 5 = .ok (.getfield 12, 3) := by decide +kernel
theorem dX4_county_8 : decode cX4_county 8 = .ok (.invokevirtual 74, 3) := by decide +kernel
theorem dX4_county_11 : decode cX4_county 11 = .ok (.aload_n 0, 1) := by decide +kernel
theorem dX4_county_12 : decode cX4_county 12 = .ok (.getfield 42, 3) := by decide +kernel
theorem dX4_county_15 : decode cX4_county 15 = .ok (.aload_n 0, 1) := by decide +kernel
theorem dX4_county_16 : decode cX4_county 16 = .ok (.getfield 19, 3) := by decide +kernel
theorem dX4_county_19 : decode cX4_county 19 = .ok (.invokevirtual 78, 3) := by decide +kernel
theorem dX4_county_22 : decode cX4_county 22 = .ok (.istore_n 1, 1) := by decide +kernel
theorem dX4_county_23 : decode cX4_county 23 = .ok (.iload_n 1, 1) := by decide +kernel
theorem dX4_county_24 : decode cX4_county 24 = .ok (.ifCond .lt 14, 3) := by decide +kernel
theorem dX4_county_27 : decode cX4_county 27 = .ok (.aload_n 0, 1) := by decide +kernel
theorem dX4_county_28 : decode cX4_county 28 = .ok (.getfield 12, 3) := by decide +kernel
theorem dX4_county_31 : decode cX4_county 31 = .ok (.aload_n 0, 1) := by decide +kernel
theorem dX4_county_32 : decode cX4_county 32 = .ok (.getfield 19, 3) := by decide +kernel
theorem dX4_county_35 : decode cX4_county 35 = .ok (.invokevirtual 74, 3) := by decide +kernel
theorem dX4_county_38 : decode cX4_county 38 = .ok (.aload_n 0, 1) := by decide +kernel
theorem dX4_county_39 : decode cX4_county 39 = .ok (.getfield 42, 3) := by decide +kernel
theorem dX4_county_42 : decode cX4_county 42 = .ok (.invokevirtual 82, 3) := by decide +kernel
theorem dX4_county_45 : decode cX4_county 45 = .ok (.iload_n 1, 1) := by decide +kernel
theorem dX4_county_46 : decode cX4_county 46 = .ok (.ireturn, 1) := by decide +kernel
theorem dX4_rider_0 : decode cX4_rider 0 = .ok (.aload_n 0, 1) := by decide +kernel
theorem dX4_rider_1 : decode cX4_rider 1 = .ok (.getfield 12, 3) := by decide +kernel
theorem dX4_rider_4 : decode cX4_rider 4 = .ok (.iload_n 1, 1) := by decide +kernel
theorem dX4_rider_5 : decode cX4_rider 5 = .ok (.invokevirtual 85, 3) := by decide +kernel
theorem dX4_rider_8 : decode cX4_rider 8 = .ok (.ifCond .ne 9, 3) := by decide +kernel
theorem dX4_rider_11 : decode cX4_rider 11 = .ok (.aload_n 0, 1) := by decide +kernel
theorem dX4_rider_12 : decode cX4_rider 12 = .ok (.iconst (-1), 1) := by decide +kernel
theorem dX4_rider_13 : decode cX4_rider 13 = .ok (.invokevirtual 63, 3) := by decide +kernel
theorem dX4_rider_16 : decode cX4_rider 16 = .ok (.ireturn, 1) := by decide +kernel
theorem dX4_rider_17 : decode cX4_rider 17 = .ok (.aload_n 0, 1) := by decide +kernel
theorem dX4_rider_18 : decode cX4_rider 18 = .ok (.getfield 12, 3) := by decide +kernel
theorem dX4_rider_21 : decode cX4_rider 21 = .ok (.getfield 89, 3) := by decide +kernel
theorem dX4_rider_24 : decode cX4_rider 24 = .ok (.iload_n 1, 1) := by decide +kernel
theorem dX4_rider_25 : decode cX4_rider 25 = .ok (.aaload, 1) := by decide +kernel
theorem dX4_rider_26 : decode cX4_rider 26 = .ok (.astore_n 3, 1) := by decide +kernel
theorem dX4_rider_27 : decode cX4_rider 27 = .ok (.iload_n 2, 1) := by decide +kernel
theorem dX4_rider_28 : decode cX4_rider 28 = .ok (.tableswitch 88 0 7 #[48, 53, 58, 63, 68, 73, 78, 83], 48) := by decide +kernel
theorem dX4_rider_76 : decode cX4_rider 76 = .ok (.aload_n 3, 1) := by decide +kernel
theorem dX4_rider_77 : decode cX4_rider 77 = .ok (.getfield 93, 3) := by decide +kernel
theorem dX4_rider_80 : decode cX4_rider 80 = .ok (.ireturn, 1) := by decide +kernel
theorem dX4_rider_81 : decode cX4_rider 81 = .ok (.aload_n 3, 1) := by decide +kernel
theorem dX4_rider_82 : decode cX4_rider 82 = .ok (.getfield 97, 3) := by decide +kernel
theorem dX4_rider_85 : decode cX4_rider 85 = .ok (.ireturn, 1) := by decide +kernel
theorem dX4_rider_86 : decode cX4_rider 86 = .ok (.aload_n 3, 1) := by decide +kernel
theorem dX4_rider_87 : decode cX4_rider 87 = .ok (.getfield 100, 3) := by decide +kernel
theorem dX4_rider_90 : decode cX4_rider 90 = .ok (.ireturn, 1) := by decide +kernel
theorem dX4_rider_91 : decode cX4_rider 91 = .ok (.aload_n 3, 1) := by decide +kernel
theorem dX4_rider_92 : decode cX4_rider 92 = .ok (.getfield 103, 3) := by decide +kernel
theorem dX4_rider_95 : decode cX4_rider 95 = .ok (.ireturn, 1) := by decide +kernel
theorem dX4_rider_96 : decode cX4_rider 96 = .ok (.aload_n 3, 1) := by decide +kernel
theorem dX4_rider_97 : decode cX4_rider 97 = .ok (.getfield 106, 3) := by decide +kernel
theorem dX4_rider_100 : decode cX4_rider 100 = .ok (.ireturn, 1) := by decide +kernel
theorem dX4_rider_101 : decode cX4_rider 101 = .ok (.aload_n 3, 1) := by decide +kernel
theorem dX4_rider_102 : decode cX4_rider 102 = .ok (.getfield 109, 3) := by decide +kernel
theorem dX4_rider_105 : decode cX4_rider 105 = .ok (.ireturn, 1) := by decide +kernel
theorem dX4_rider_106 : decode cX4_rider 106 = .ok (.aload_n 3, 1) := by decide +kernel
theorem dX4_rider_107 : decode cX4_rider 107 = .ok (.getfield 112, 3) := by decide +kernel
theorem dX4_rider_110 : decode cX4_rider 110 = .ok (.ireturn, 1) := by decide +kernel
theorem dX4_rider_111 : decode cX4_rider 111 = .ok (.aload_n 3, 1) := by decide +kernel
theorem dX4_rider_112 : decode cX4_rider 112 = .ok (.invokevirtual 115, 3) := by decide +kernel
theorem dX4_rider_115 : decode cX4_rider 115 = .ok (.ireturn, 1) := by decide +kernel
theorem dX4_rider_116 : decode cX4_rider 116 = .ok (.aload_n 0, 1) := by decide +kernel
theorem dX4_rider_117 : decode cX4_rider 117 = .ok (.bipush (-2), 2) := by decide +kernel
theorem dX4_rider_119 : decode cX4_rider 119 = .ok (.invokevirtual 63, 3) := by decide +kernel
theorem dX4_rider_122 : decode cX4_rider 122 = .ok (.ireturn, 1) := by decide +kernel
theorem dX4_steps_0 : decode cX4_steps 0 = .ok (.iload_n 1, 1) := by decide +kernel
theorem dX4_steps_1 : decode cX4_steps 1 = .ok (.invokestatic 119, 3) := by decide +kernel
theorem dX4_steps_4 : decode cX4_steps 4 = .ok (.ifCond .eq 10, 3) := by decide +kernel
theorem dX4_steps_7 : decode cX4_steps 7 = .ok (.iload_n 2, 1) := by decide +kernel
theorem dX4_steps_8 : decode cX4_steps 8 = .ok (.invokestatic 119, 3) := by decide +kernel
theorem dX4_steps_11 : decode cX4_steps 11 = .ok (.ifCond .ne 9, 3) := by decide +kernel
theorem dX4_steps_14 : decode cX4_steps 14 = .ok (.aload_n 0, 1) := by decide +kernel
theorem dX4_steps_15 : decode cX4_steps 15 = .ok (.iconst (-1), 1) := by decide +kernel
theorem dX4_steps_16 : decode cX4_steps 16 = .ok (.invokevirtual 63, 3) := by decide +kernel
theorem dX4_steps_19 : decode cX4_steps 19 = .ok (.ireturn, 1) := by decide +kernel
theorem dX4_steps_20 : decode cX4_steps 20 = .ok (.aload_n 0, 1) := by decide +kernel
theorem dX4_steps_21 : decode cX4_steps 21 = .ok (.getfield 12, 3) := by decide +kernel
theorem dX4_steps_24 : decode cX4_steps 24 = .ok (.getfield 122, 3) := by decide +kernel
theorem dX4_steps_27 : decode cX4_steps 27 = .ok (.iload_n 1, 1) := by decide +kernel
theorem dX4_steps_28 : decode cX4_steps 28 = .ok (.iload_n 2, 1) := by decide +kernel
theorem dX4_steps_29 : decode cX4_steps 29 = .ok (.invokevirtual 125, 3) := by decide +kernel
theorem dX4_steps_32 : decode cX4_steps 32 = .ok (.ireturn, 1) := by decide +kernel
theorem dX4_pulls_0 : decode cX4_pulls 0 = .ok (.aload_n 0, 1) := by decide +kernel
theorem dX4_pulls_1 : decode cX4_pulls 1 = .ok (.getfield 12, 3) := by decide +kernel
theorem dX4_pulls_4 : decode cX4_pulls 4 = .ok (.iload_n 1, 1) := by decide +kernel
theorem dX4_pulls_5 : decode cX4_pulls 5 = .ok (.invokevirtual 85, 3) := by decide +kernel
theorem dX4_pulls_8 : decode cX4_pulls 8 = .ok (.ifCond .eq 10, 3) := by decide +kernel
theorem dX4_pulls_11 : decode cX4_pulls 11 = .ok (.iload_n 2, 1) := by decide +kernel
theorem dX4_pulls_12 : decode cX4_pulls 12 = .ok (.invokestatic 119, 3) := by decide +kernel
theorem dX4_pulls_15 : decode cX4_pulls 15 = .ok (.ifCond .ne 9, 3) := by decide +kernel
theorem dX4_pulls_18 : decode cX4_pulls 18 = .ok (.aload_n 0, 1) := by decide +kernel
theorem dX4_pulls_19 : decode cX4_pulls 19 = .ok (.iconst (-1), 1) := by decide +kernel
theorem dX4_pulls_20 : decode cX4_pulls 20 = .ok (.invokevirtual 63, 3) := by decide +kernel
theorem dX4_pulls_23 : decode cX4_pulls 23 = .ok (.ireturn, 1) := by decide +kernel
theorem dX4_pulls_24 : decode cX4_pulls 24 = .ok (.aload_n 0, 1) := by decide +kernel
theorem dX4_pulls_25 : decode cX4_pulls 25 = .ok (.getfield 12, 3) := by decide +kernel
theorem dX4_pulls_28 : decode cX4_pulls 28 = .ok (.getfield 89, 3) := by decide +kernel
theorem dX4_pulls_31 : decode cX4_pulls 31 = .ok (.iload_n 1, 1) := by decide +kernel
theorem dX4_pulls_32 : decode cX4_pulls 32 = .ok (.aaload, 1) := by decide +kernel
theorem dX4_pulls_33 : decode cX4_pulls 33 = .ok (.aload_n 0, 1) := by decide +kernel
theorem dX4_pulls_34 : decode cX4_pulls 34 = .ok (.getfield 12, 3) := by decide +kernel
theorem dX4_pulls_37 : decode cX4_pulls 37 = .ok (.getfield 122, 3) := by decide +kernel
theorem dX4_pulls_40 : decode cX4_pulls 40 = .ok (.iload_n 2, 1) := by decide +kernel
theorem dX4_pulls_41 : decode cX4_pulls 41 = .ok (.invokevirtual 129, 3) := by decide +kernel
theorem dX4_pulls_44 : decode cX4_pulls 44 = .ok (.ireturn, 1) := by decide +kernel
theorem dX4_roads_0 : decode cX4_roads 0 = .ok (.aload_n 0, 1) := by decide +kernel
theorem dX4_roads_1 : decode cX4_roads 1 = .ok (.getfield 12, 3) := by decide +kernel
theorem dX4_roads_4 : decode cX4_roads 4 = .ok (.iload_n 1, 1) := by decide +kernel
theorem dX4_roads_5 : decode cX4_roads 5 = .ok (.iload_n 2, 1) := by decide +kernel
theorem dX4_roads_6 : decode cX4_roads 6 = .ok (.invokevirtual 133, 3) := by decide +kernel
theorem dX4_roads_9 : decode cX4_roads 9 = .ok (.ifCond .ne 9, 3) := by decide +kernel
theorem dX4_roads_12 : decode cX4_roads 12 = .ok (.aload_n 0, 1) := by decide +kernel
theorem dX4_roads_13 : decode cX4_roads 13 = .ok (.iconst (-1), 1) := by decide +kernel
theorem dX4_roads_14 : decode cX4_roads 14 = .ok (.invokevirtual 63, 3) := by decide +kernel
theorem dX4_roads_17 : decode cX4_roads 17 = .ok (.ireturn, 1) := by decide +kernel
theorem dX4_roads_18 : decode cX4_roads 18 = .ok (.aload_n 0, 1) := by decide +kernel
theorem dX4_roads_19 : decode cX4_roads 19 = .ok (.getfield 12, 3) := by decide +kernel
theorem dX4_roads_22 : decode cX4_roads 22 = .ok (.getfield 122, 3) := by decide +kernel
theorem dX4_roads_25 : decode cX4_roads 25 = .ok (.iload_n 1, 1) := by decide +kernel
theorem dX4_roads_26 : decode cX4_roads 26 = .ok (.iload_n 2, 1) := by decide +kernel
theorem dX4_roads_27 : decode cX4_roads 27 = .ok (.invokevirtual 137, 3) := by decide +kernel
theorem dX4_roads_30 : decode cX4_roads 30 = .ok (.ifCond .eq 7, 3) := by decide +kernel
theorem dX4_roads_33 : decode cX4_roads 33 = .ok (.iconst 1, 1) := by decide +kernel
theorem dX4_roads_34 : decode cX4_roads 34 = .ok (.goto 4, 3) := by decide +kernel
theorem dX4_roads_37 : decode cX4_roads 37 = .ok (.iconst 0, 1) := by decide +kernel
theorem dX4_roads_38 : decode cX4_roads 38 = .ok (.ireturn, 1) := by decide +kernel
theorem dX4_shod_0 : decode cX4_shod 0 = .ok (.aload_n 0, 1) := by decide +kernel
theorem dX4_shod_1 : decode cX4_shod 1 = .ok (.getfield 12, 3) := by decide +kernel
theorem dX4_shod_4 : decode cX4_shod 4 = .ok (.iload_n 1, 1) := by decide +kernel
theorem dX4_shod_5 : decode cX4_shod 5 = .ok (.invokevirtual 140, 3) := by decide +kernel
theorem dX4_shod_8 : decode cX4_shod 8 = .ok (.ifCond .ne 9, 3) := by decide +kernel
theorem dX4_shod_11 : decode cX4_shod 11 = .ok (.aload_n 0, 1) := by decide +kernel
theorem dX4_shod_12 : decode cX4_shod 12 = .ok (.iconst (-1), 1) := by decide +kernel
theorem dX4_shod_13 : decode cX4_shod 13 = .ok (.invokevirtual 63, 3) := by decide +kernel
theorem dX4_shod_16 : decode cX4_shod 16 = .ok (.ireturn, 1) := by decide +kernel
theorem dX4_shod_17 : decode cX4_shod 17 = .ok (.aload_n 0, 1) := by decide +kernel
theorem dX4_shod_18 : decode cX4_shod 18 = .ok (.getfield 12, 3) := by decide +kernel
theorem dX4_shod_21 : decode cX4_shod 21 = .ok (.getfield 89, 3) := by decide +kernel
theorem dX4_shod_24 : decode cX4_shod 24 = .ok (.iload_n 1, 1) := by decide +kernel
theorem dX4_shod_25 : decode cX4_shod 25 = .ok (.aaload, 1) := by decide +kernel
theorem dX4_shod_26 : decode cX4_shod 26 = .ok (.getfield 109, 3) := by decide +kernel
theorem dX4_shod_29 : decode cX4_shod 29 = .ok (.ireturn, 1) := by decide +kernel
theorem dX4_wants_0 : decode cX4_wants 0 = .ok (.aload_n 0, 1) := by decide +kernel
theorem dX4_wants_1 : decode cX4_wants 1 = .ok (.getfield 12, 3) := by decide +kernel
theorem dX4_wants_4 : decode cX4_wants 4 = .ok (.iload_n 1, 1) := by decide +kernel
theorem dX4_wants_5 : decode cX4_wants 5 = .ok (.invokevirtual 85, 3) := by decide +kernel
theorem dX4_wants_8 : decode cX4_wants 8 = .ok (.ifCond .eq 10, 3) := by decide +kernel
theorem dX4_wants_11 : decode cX4_wants 11 = .ok (.iload_n 2, 1) := by decide +kernel
theorem dX4_wants_12 : decode cX4_wants 12 = .ok (.invokestatic 119, 3) := by decide +kernel
theorem dX4_wants_15 : decode cX4_wants 15 = .ok (.ifCond .ne 9, 3) := by decide +kernel
theorem dX4_wants_18 : decode cX4_wants 18 = .ok (.aload_n 0, 1) := by decide +kernel
theorem dX4_wants_19 : decode cX4_wants 19 = .ok (.iconst (-1), 1) := by decide +kernel
theorem dX4_wants_20 : decode cX4_wants 20 = .ok (.invokevirtual 63, 3) := by decide +kernel
theorem dX4_wants_23 : decode cX4_wants 23 = .ok (.ireturn, 1) := by decide +kernel
theorem dX4_wants_24 : decode cX4_wants 24 = .ok (.aload_n 0, 1) := by decide +kernel
theorem dX4_wants_25 : decode cX4_wants 25 = .ok (.getfield 12, 3) := by decide +kernel
theorem dX4_wants_28 : decode cX4_wants 28 = .ok (.getfield 89, 3) := by decide +kernel
theorem dX4_wants_31 : decode cX4_wants 31 = .ok (.iload_n 1, 1) := by decide +kernel
theorem dX4_wants_32 : decode cX4_wants 32 = .ok (.aaload, 1) := by decide +kernel
theorem dX4_wants_33 : decode cX4_wants 33 = .ok (.getfield 100, 3) := by decide +kernel
theorem dX4_wants_36 : decode cX4_wants 36 = .ok (.istore_n 3, 1) := by decide +kernel
theorem dX4_wants_37 : decode cX4_wants 37 = .ok (.aload_n 0, 1) := by decide +kernel
theorem dX4_wants_38 : decode cX4_wants 38 = .ok (.getfield 12, 3) := by decide +kernel
theorem dX4_wants_41 : decode cX4_wants 41 = .ok (.iload_n 1, 1) := by decide +kernel
theorem dX4_wants_42 : decode cX4_wants 42 = .ok (.iload_n 2, 1) := by decide +kernel
theorem dX4_wants_43 : decode cX4_wants 43 = .ok (.invokevirtual 143, 3) := by decide +kernel
theorem dX4_wants_46 : decode cX4_wants 46 = .ok (.pop, 1) := by decide +kernel
theorem dX4_wants_47 : decode cX4_wants 47 = .ok (.iload_n 3, 1) := by decide +kernel
theorem dX4_wants_48 : decode cX4_wants 48 = .ok (.ireturn, 1) := by decide +kernel
theorem dX4_stands_0 : decode cX4_stands 0 = .ok (.aload_n 0, 1) := by decide +kernel
theorem dX4_stands_1 : decode cX4_stands 1 = .ok (.getfield 12, 3) := by decide +kernel
theorem dX4_stands_4 : decode cX4_stands 4 = .ok (.iload_n 1, 1) := by decide +kernel
theorem dX4_stands_5 : decode cX4_stands 5 = .ok (.invokevirtual 85, 3) := by decide +kernel
theorem dX4_stands_8 : decode cX4_stands 8 = .ok (.ifCond .eq 10, 3) := by decide +kernel
theorem dX4_stands_11 : decode cX4_stands 11 = .ok (.iload_n 2, 1) := by decide +kernel
theorem dX4_stands_12 : decode cX4_stands 12 = .ok (.invokestatic 119, 3) := by decide +kernel
theorem dX4_stands_15 : decode cX4_stands 15 = .ok (.ifCond .ne 9, 3) := by decide +kernel
theorem dX4_stands_18 : decode cX4_stands 18 = .ok (.aload_n 0, 1) := by decide +kernel
theorem dX4_stands_19 : decode cX4_stands 19 = .ok (.iconst (-1), 1) := by decide +kernel
theorem dX4_stands_20 : decode cX4_stands 20 = .ok (.invokevirtual 63, 3) := by decide +kernel
theorem dX4_stands_23 : decode cX4_stands 23 = .ok (.ireturn, 1) := by decide +kernel
theorem dX4_stands_24 : decode cX4_stands 24 = .ok (.aload_n 0, 1) := by decide +kernel
theorem dX4_stands_25 : decode cX4_stands 25 = .ok (.getfield 12, 3) := by decide +kernel
theorem dX4_stands_28 : decode cX4_stands 28 = .ok (.getfield 89, 3) := by decide +kernel
theorem dX4_stands_31 : decode cX4_stands 31 = .ok (.iload_n 1, 1) := by decide +kernel
theorem dX4_stands_32 : decode cX4_stands 32 = .ok (.aaload, 1) := by decide +kernel
theorem dX4_stands_33 : decode cX4_stands 33 = .ok (.getfield 106, 3) := by decide +kernel
theorem dX4_stands_36 : decode cX4_stands 36 = .ok (.istore_n 3, 1) := by decide +kernel
theorem dX4_stands_37 : decode cX4_stands 37 = .ok (.aload_n 0, 1) := by decide +kernel
theorem dX4_stands_38 : decode cX4_stands 38 = .ok (.getfield 12, 3) := by decide +kernel
theorem dX4_stands_41 : decode cX4_stands 41 = .ok (.iload_n 1, 1) := by decide +kernel
theorem dX4_stands_42 : decode cX4_stands 42 = .ok (.iload_n 2, 1) := by decide +kernel
theorem dX4_stands_43 : decode cX4_stands 43 = .ok (.invokevirtual 146, 3) := by decide +kernel
theorem dX4_stands_46 : decode cX4_stands 46 = .ok (.pop, 1) := by decide +kernel
theorem dX4_stands_47 : decode cX4_stands 47 = .ok (.iload_n 3, 1) := by decide +kernel
theorem dX4_stands_48 : decode cX4_stands 48 = .ok (.ireturn, 1) := by decide +kernel
theorem dX4_turn_0 : decode cX4_turn 0 = .ok (.aload_n 0, 1) := by decide +kernel
theorem dX4_turn_1 : decode cX4_turn 1 = .ok (.getfield 12, 3) := by decide +kernel
theorem dX4_turn_4 : decode cX4_turn 4 = .ok (.iload_n 1, 1) := by decide +kernel
theorem dX4_turn_5 : decode cX4_turn 5 = .ok (.invokevirtual 85, 3) := by decide +kernel
theorem dX4_turn_8 : decode cX4_turn 8 = .ok (.ifCond .ne 9, 3) := by decide +kernel
theorem dX4_turn_11 : decode cX4_turn 11 = .ok (.aload_n 0, 1) := by decide +kernel
theorem dX4_turn_12 : decode cX4_turn 12 = .ok (.iconst (-1), 1) := by decide +kernel
theorem dX4_turn_13 : decode cX4_turn 13 = .ok (.invokevirtual 63, 3) := by decide +kernel
theorem dX4_turn_16 : decode cX4_turn 16 = .ok (.ireturn, 1) := by decide +kernel
theorem dX4_turn_17 : decode cX4_turn 17 = .ok (.iload_n 2, 1) := by decide +kernel
theorem dX4_turn_18 : decode cX4_turn 18 = .ok (.bipush 6, 2) := by decide +kernel
theorem dX4_turn_20 : decode cX4_turn 20 = .ok (.invokestatic 149, 3) := by decide +kernel
theorem dX4_turn_23 : decode cX4_turn 23 = .ok (.ifCond .ne 10, 3) := by decide +kernel
theorem dX4_turn_26 : decode cX4_turn 26 = .ok (.aload_n 0, 1) := by decide +kernel
theorem dX4_turn_27 : decode cX4_turn 27 = .ok (.bipush (-2), 2) := by decide +kernel
theorem dX4_turn_29 : decode cX4_turn 29 = .ok (.invokevirtual 63, 3) := by decide +kernel
theorem dX4_turn_32 : decode cX4_turn 32 = .ok (.ireturn, 1) := by decide +kernel
theorem dX4_turn_33 : decode cX4_turn 33 = .ok (.iload_n 3, 1) := by decide +kernel
theorem dX4_turn_34 : decode cX4_turn 34 = .ok (.ifCond .ge 10, 3) := by decide +kernel
theorem dX4_turn_37 : decode cX4_turn 37 = .ok (.aload_n 0, 1) := by decide +kernel
theorem dX4_turn_38 : decode cX4_turn 38 = .ok (.bipush (-4), 2) := by decide +kernel
theorem dX4_turn_40 : decode cX4_turn 40 = .ok (.invokevirtual 63, 3) := by decide +kernel
theorem dX4_turn_43 : decode cX4_turn 43 = .ok (.ireturn, 1) := by decide +kernel
theorem dX4_turn_44 : decode cX4_turn 44 = .ok (.iload_n 3, 1) := by decide +kernel
theorem dX4_turn_45 : decode cX4_turn 45 = .ok (.bipush 9, 2) := by decide +kernel
theorem dX4_turn_47 : decode cX4_turn 47 = .ok (.if_icmp .le 10, 3) := by decide +kernel
theorem dX4_turn_50 : decode cX4_turn 50 = .ok (.aload_n 0, 1) := by decide +kernel
theorem dX4_turn_51 : decode cX4_turn 51 = .ok (.bipush (-6), 2) := by decide +kernel
theorem dX4_turn_53 : decode cX4_turn 53 = .ok (.invokevirtual 63, 3) := by decide +kernel
theorem dX4_turn_56 : decode cX4_turn 56 = .ok (.ireturn, 1) := by decide +kernel
theorem dX4_turn_57 : decode cX4_turn 57 = .ok (.aload_n 0, 1) := by decide +kernel
theorem dX4_turn_58 : decode cX4_turn 58 = .ok (.getfield 12, 3) := by decide +kernel
theorem dX4_turn_61 : decode cX4_turn 61 = .ok (.getfield 89, 3) := by decide +kernel
theorem dX4_turn_64 : decode cX4_turn 64 = .ok (.iload_n 1, 1) := by decide +kernel
theorem dX4_turn_65 : decode cX4_turn 65 = .ok (.aaload, 1) := by decide +kernel
theorem dX4_turn_66 : decode cX4_turn 66 = .ok (.astore 4, 2) := by decide +kernel
theorem dX4_turn_68 : decode cX4_turn 68 = .ok (.bipush 10, 2) := by decide +kernel
theorem dX4_turn_70 : decode cX4_turn 70 = .ok (.aload 4, 2) := by decide +kernel
theorem dX4_turn_72 : decode cX4_turn 72 = .ok (.getfield 93, 3) := by decide +kernel
theorem dX4_turn_75 : decode cX4_turn 75 = .ok (.imul, 1) := by decide +kernel
theorem dX4_turn_76 : decode cX4_turn 76 = .ok (.aload 4, 2) := by decide +kernel
theorem dX4_turn_78 : decode cX4_turn 78 = .ok (.getfield 97, 3) := by decide +kernel
theorem dX4_turn_81 : decode cX4_turn 81 = .ok (.iadd, 1) := by decide +kernel
theorem dX4_turn_82 : decode cX4_turn 82 = .ok (.istore 5, 2) := by decide +kernel
theorem dX4_turn_84 : decode cX4_turn 84 = .ok (.aload 4, 2) := by decide +kernel
theorem dX4_turn_86 : decode cX4_turn 86 = .ok (.iload_n 2, 1) := by decide +kernel
theorem dX4_turn_87 : decode cX4_turn 87 = .ok (.putfield 93, 3) := by decide +kernel
theorem dX4_turn_90 : decode cX4_turn 90 = .ok (.aload 4, 2) := by decide +kernel
theorem dX4_turn_92 : decode cX4_turn 92 = .ok (.iload_n 3, 1) := by decide +kernel
theorem dX4_turn_93 : decode cX4_turn 93 = .ok (.putfield 97, 3) := by decide +kernel
theorem dX4_turn_96 : decode cX4_turn 96 = .ok (.iload 5, 2) := by decide +kernel
theorem dX4_turn_98 : decode cX4_turn 98 = .ok (.ireturn, 1) := by decide +kernel
theorem dX4_days_0 : decode cX4_days 0 = .ok (.iload_n 1, 1) := by decide +kernel
theorem dX4_days_1 : decode cX4_days 1 = .ok (.iconst 1, 1) := by decide +kernel
theorem dX4_days_2 : decode cX4_days 2 = .ok (.if_icmp .ge 10, 3) := by decide +kernel
theorem dX4_days_5 : decode cX4_days 5 = .ok (.aload_n 0, 1) := by decide +kernel
theorem dX4_days_6 : decode cX4_days 6 = .ok (.bipush (-4), 2) := by decide +kernel
theorem dX4_days_8 : decode cX4_days 8 = .ok (.invokevirtual 63, 3) := by decide +kernel
theorem dX4_days_11 : decode cX4_days 11 = .ok (.ireturn, 1) := by decide +kernel
theorem dX4_days_12 : decode cX4_days 12 = .ok (.aload_n 0, 1) := by decide +kernel
theorem dX4_days_13 : decode cX4_days 13 = .ok (.getfield 12, 3) := by decide +kernel
theorem dX4_days_16 : decode cX4_days 16 = .ok (.iload_n 1, 1) := by decide +kernel
theorem dX4_days_17 : decode cX4_days 17 = .ok (.invokevirtual 152, 3) := by decide +kernel
theorem dX4_days_20 : decode cX4_days 20 = .ok (.ifCond .ne 10, 3) := by decide +kernel
theorem dX4_days_23 : decode cX4_days 23 = .ok (.aload_n 0, 1) := by decide +kernel
theorem dX4_days_24 : decode cX4_days 24 = .ok (.bipush (-6), 2) := by decide +kernel
theorem dX4_days_26 : decode cX4_days 26 = .ok (.invokevirtual 63, 3) := by decide +kernel
theorem dX4_days_29 : decode cX4_days 29 = .ok (.ireturn, 1) := by decide +kernel
theorem dX4_days_30 : decode cX4_days 30 = .ok (.aload_n 0, 1) := by decide +kernel
theorem dX4_days_31 : decode cX4_days 31 = .ok (.getfield 12, 3) := by decide +kernel
theorem dX4_days_34 : decode cX4_days 34 = .ok (.invokevirtual 155, 3) := by decide +kernel
theorem dX4_days_37 : decode cX4_days 37 = .ok (.invokestatic 158, 3) := by decide +kernel
theorem dX4_days_40 : decode cX4_days 40 = .ok (.ireturn, 1) := by decide +kernel
theorem dX4_riderThen_0 : decode cX4_riderThen 0 = .ok (.aload_n 0, 1) := by decide +kernel
theorem dX4_riderThen_1 : decode cX4_riderThen 1 = .ok (.getfield 12, 3) := by decide +kernel
theorem dX4_riderThen_4 : decode cX4_riderThen 4 = .ok (.iload_n 1, 1) := by decide +kernel
theorem dX4_riderThen_5 : decode cX4_riderThen 5 = .ok (.invokevirtual 85, 3) := by decide +kernel
theorem dX4_riderThen_8 : decode cX4_riderThen 8 = .ok (.ifCond .ne 9, 3) := by decide +kernel
theorem dX4_riderThen_11 : decode cX4_riderThen 11 = .ok (.aload_n 0, 1) := by decide +kernel
theorem dX4_riderThen_12 : decode cX4_riderThen 12 = .ok (.iconst (-1), 1) := by decide +kernel
theorem dX4_riderThen_13 : decode cX4_riderThen 13 = .ok (.invokevirtual 63, 3) := by decide +kernel
theorem dX4_riderThen_16 : decode cX4_riderThen 16 = .ok (.ireturn, 1) := by decide +kernel
theorem dX4_riderThen_17 : decode cX4_riderThen 17 = .ok (.iload_n 2, 1) := by decide +kernel
theorem dX4_riderThen_18 : decode cX4_riderThen 18 = .ok (.iconst 0, 1) := by decide +kernel
theorem dX4_riderThen_19 : decode cX4_riderThen 19 = .ok (.bipush 60, 2) := by decide +kernel
theorem dX4_riderThen_21 : decode cX4_riderThen 21 = .ok (.invokestatic 163, 3) := by decide +kernel
theorem dX4_riderThen_24 : decode cX4_riderThen 24 = .ok (.istore 4, 2) := by decide +kernel
theorem dX4_riderThen_26 : decode cX4_riderThen 26 = .ok (.iload 4, 2) := by decide +kernel
theorem dX4_riderThen_28 : decode cX4_riderThen 28 = .ok (.ifCond .eq 10, 3) := by decide +kernel
theorem dX4_riderThen_31 : decode cX4_riderThen 31 = .ok (.aload_n 0, 1) := by decide +kernel
theorem dX4_riderThen_32 : decode cX4_riderThen 32 = .ok (.iload 4, 2) := by decide +kernel
theorem dX4_riderThen_34 : decode cX4_riderThen 34 = .ok (.invokevirtual 63, 3) := by decide +kernel
theorem dX4_riderThen_37 : decode cX4_riderThen 37 = .ok (.ireturn, 1) := by decide +kernel
theorem dX4_riderThen_38 : decode cX4_riderThen 38 = .ok (.iload_n 3, 1) := by decide +kernel
theorem dX4_riderThen_39 : decode cX4_riderThen 39 = .ok (.iconst 2, 1) := by decide +kernel
theorem dX4_riderThen_40 : decode cX4_riderThen 40 = .ok (.invokestatic 149, 3) := by decide +kernel
theorem dX4_riderThen_43 : decode cX4_riderThen 43 = .ok (.ifCond .ne 10, 3) := by decide +kernel
theorem dX4_riderThen_46 : decode cX4_riderThen 46 = .ok (.aload_n 0, 1) := by decide +kernel
theorem dX4_riderThen_47 : decode cX4_riderThen 47 = .ok (.bipush (-2), 2) := by decide +kernel
theorem dX4_riderThen_49 : decode cX4_riderThen 49 = .ok (.invokevirtual 63, 3) := by decide +kernel
theorem dX4_riderThen_52 : decode cX4_riderThen 52 = .ok (.ireturn, 1) := by decide +kernel
theorem dX4_riderThen_53 : decode cX4_riderThen 53 = .ok (.aload_n 0, 1) := by decide +kernel
theorem dX4_riderThen_54 : decode cX4_riderThen 54 = .ok (.iload_n 1, 1) := by decide +kernel
theorem dX4_riderThen_55 : decode cX4_riderThen 55 = .ok (.invokevirtual 167, 3) := by decide +kernel
theorem dX4_riderThen_58 : decode cX4_riderThen 58 = .ok (.aload_n 0, 1) := by decide +kernel
theorem dX4_riderThen_59 : decode cX4_riderThen 59 = .ok (.getfield 32, 3) := by decide +kernel
theorem dX4_riderThen_62 : decode cX4_riderThen 62 = .ok (.aload_n 0, 1) := by decide +kernel
theorem dX4_riderThen_63 : decode cX4_riderThen 63 = .ok (.getfield 12, 3) := by decide +kernel
theorem dX4_riderThen_66 : decode cX4_riderThen 66 = .ok (.getfield 122, 3) := by decide +kernel
theorem dX4_riderThen_69 : decode cX4_riderThen 69 = .ok (.iload_n 2, 1) := by decide +kernel
theorem dX4_riderThen_70 : decode cX4_riderThen 70 = .ok (.invokevirtual 171, 3) := by decide +kernel
theorem dX4_riderThen_73 : decode cX4_riderThen 73 = .ok (.iload_n 3, 1) := by decide +kernel
theorem dX4_riderThen_74 : decode cX4_riderThen 74 = .ok (.ifCond .ne 13, 3) := by decide +kernel
theorem dX4_riderThen_77 : decode cX4_riderThen 77 = .ok (.aload_n 0, 1) := by decide +kernel
theorem dX4_riderThen_78 : decode cX4_riderThen 78 = .ok (.getfield 32, 3) := by decide +kernel
theorem dX4_riderThen_81 : decode cX4_riderThen 81 = .ok (.getfield 106, 3) := by decide +kernel
theorem dX4_riderThen_84 : decode cX4_riderThen 84 = .ok (.goto 10, 3) := by decide +kernel
theorem dX4_riderThen_87 : decode cX4_riderThen 87 = .ok (.aload_n 0, 1) := by decide +kernel
theorem dX4_riderThen_88 : decode cX4_riderThen 88 = .ok (.getfield 32, 3) := by decide +kernel
theorem dX4_riderThen_91 : decode cX4_riderThen 91 = .ok (.getfield 109, 3) := by decide +kernel
theorem dX4_riderThen_94 : decode cX4_riderThen 94 = .ok (.ireturn, 1) := by decide +kernel
theorem dX4_comes_0 : decode cX4_comes 0 = .ok (.aload_n 0, 1) := by decide +kernel
theorem dX4_comes_1 : decode cX4_comes 1 = .ok (.getfield 12, 3) := by decide +kernel
theorem dX4_comes_4 : decode cX4_comes 4 = .ok (.iload_n 1, 1) := by decide +kernel
theorem dX4_comes_5 : decode cX4_comes 5 = .ok (.invokevirtual 85, 3) := by decide +kernel
theorem dX4_comes_8 : decode cX4_comes 8 = .ok (.ifCond .eq 10, 3) := by decide +kernel
theorem dX4_comes_11 : decode cX4_comes 11 = .ok (.iload_n 2, 1) := by decide +kernel
theorem dX4_comes_12 : decode cX4_comes 12 = .ok (.invokestatic 119, 3) := by decide +kernel
theorem dX4_comes_15 : decode cX4_comes 15 = .ok (.ifCond .ne 9, 3) := by decide +kernel
theorem dX4_comes_18 : decode cX4_comes 18 = .ok (.aload_n 0, 1) := by decide +kernel
theorem dX4_comes_19 : decode cX4_comes 19 = .ok (.iconst (-1), 1) := by decide +kernel
theorem dX4_comes_20 : decode cX4_comes 20 = .ok (.invokevirtual 63, 3) := by decide +kernel
theorem dX4_comes_23 : decode cX4_comes 23 = .ok (.ireturn, 1) := by decide +kernel
theorem dX4_comes_24 : decode cX4_comes 24 = .ok (.aload_n 0, 1) := by decide +kernel
theorem dX4_comes_25 : decode cX4_comes 25 = .ok (.iload_n 1, 1) := by decide +kernel
theorem dX4_comes_26 : decode cX4_comes 26 = .ok (.iload_n 2, 1) := by decide +kernel
theorem dX4_comes_27 : decode cX4_comes 27 = .ok (.invokevirtual 175, 3) := by decide +kernel
theorem dX4_comes_30 : decode cX4_comes 30 = .ok (.invokestatic 178, 3) := by decide +kernel
theorem dX4_comes_33 : decode cX4_comes 33 = .ok (.ireturn, 1) := by decide +kernel
theorem dX4_first_0 : decode cX4_first 0 = .ok (.iload_n 1, 1) := by decide +kernel
theorem dX4_first_1 : decode cX4_first 1 = .ok (.invokestatic 119, 3) := by decide +kernel
theorem dX4_first_4 : decode cX4_first 4 = .ok (.ifCond .ne 9, 3) := by decide +kernel
theorem dX4_first_7 : decode cX4_first 7 = .ok (.aload_n 0, 1) := by decide +kernel
theorem dX4_first_8 : decode cX4_first 8 = .ok (.iconst (-1), 1) := by decide +kernel
theorem dX4_first_9 : decode cX4_first 9 = .ok (.invokevirtual 63, 3) := by decide +kernel
theorem dX4_first_12 : decode cX4_first 12 = .ok (.ireturn, 1) := by decide +kernel
theorem dX4_first_13 : decode cX4_first 13 = .ok (.bipush (-9), 2) := by decide +kernel
theorem dX4_first_15 : decode cX4_first 15 = .ok (.istore_n 2, 1) := by decide +kernel
theorem dX4_first_16 : decode cX4_first 16 = .ok (.bipush 61, 2) := by decide +kernel
theorem dX4_first_18 : decode cX4_first 18 = .ok (.istore_n 3, 1) := by decide +kernel
theorem dX4_first_19 : decode cX4_first 19 = .ok (.iconst 0, 1) := by decide +kernel
theorem dX4_first_20 : decode cX4_first 20 = .ok (.istore 4, 2) := by decide +kernel
theorem dX4_first_22 : decode cX4_first 22 = .ok (.iload 4, 2) := by decide +kernel
theorem dX4_first_24 : decode cX4_first 24 = .ok (.aload_n 0, 1) := by decide +kernel
theorem dX4_first_25 : decode cX4_first 25 = .ok (.getfield 12, 3) := by decide +kernel
theorem dX4_first_28 : decode cX4_first 28 = .ok (.getfield 181, 3) := by decide +kernel
theorem dX4_first_31 : decode cX4_first 31 = .ok (.if_icmp .ge 30, 3) := by decide +kernel
theorem dX4_first_34 : decode cX4_first 34 = .ok (.aload_n 0, 1) := by decide +kernel
theorem dX4_first_35 : decode cX4_first 35 = .ok (.iload 4, 2) := by decide +kernel
theorem dX4_first_37 : decode cX4_first 37 = .ok (.iload_n 1, 1) := by decide +kernel
theorem dX4_first_38 : decode cX4_first 38 = .ok (.invokevirtual 175, 3) := by decide +kernel
theorem dX4_first_41 : decode cX4_first 41 = .ok (.istore 5, 2) := by decide +kernel
theorem dX4_first_43 : decode cX4_first 43 = .ok (.iload 5, 2) := by decide +kernel
theorem dX4_first_45 : decode cX4_first 45 = .ok (.iload_n 3, 1) := by decide +kernel
theorem dX4_first_46 : decode cX4_first 46 = .ok (.if_icmp .ge 9, 3) := by decide +kernel
theorem dX4_first_49 : decode cX4_first 49 = .ok (.iload 5, 2) := by decide +kernel
theorem dX4_first_51 : decode cX4_first 51 = .ok (.istore_n 3, 1) := by decide +kernel
theorem dX4_first_52 : decode cX4_first 52 = .ok (.iload 4, 2) := by decide +kernel
theorem dX4_first_54 : decode cX4_first 54 = .ok (.istore_n 2, 1) := by decide +kernel
theorem dX4_first_55 : decode cX4_first 55 = .ok (.iinc 4 1, 3) := by decide +kernel
theorem dX4_first_58 : decode cX4_first 58 = .ok (.goto (-36), 3) := by decide +kernel
theorem dX4_first_61 : decode cX4_first 61 = .ok (.iload_n 2, 1) := by decide +kernel
theorem dX4_first_62 : decode cX4_first 62 = .ok (.ireturn, 1) := by decide +kernel
theorem dX4_rests_0 : decode cX4_rests 0 = .ok (.aload_n 0, 1) := by decide +kernel
theorem dX4_rests_1 : decode cX4_rests 1 = .ok (.getfield 12, 3) := by decide +kernel
theorem dX4_rests_4 : decode cX4_rests 4 = .ok (.iload_n 1, 1) := by decide +kernel
theorem dX4_rests_5 : decode cX4_rests 5 = .ok (.invokevirtual 85, 3) := by decide +kernel
theorem dX4_rests_8 : decode cX4_rests 8 = .ok (.ifCond .ne 9, 3) := by decide +kernel
theorem dX4_rests_11 : decode cX4_rests 11 = .ok (.aload_n 0, 1) := by decide +kernel
theorem dX4_rests_12 : decode cX4_rests 12 = .ok (.iconst (-1), 1) := by decide +kernel
theorem dX4_rests_13 : decode cX4_rests 13 = .ok (.invokevirtual 63, 3) := by decide +kernel
theorem dX4_rests_16 : decode cX4_rests 16 = .ok (.ireturn, 1) := by decide +kernel
theorem dX4_rests_17 : decode cX4_rests 17 = .ok (.aload_n 0, 1) := by decide +kernel
theorem dX4_rests_18 : decode cX4_rests 18 = .ok (.iload_n 1, 1) := by decide +kernel
theorem dX4_rests_19 : decode cX4_rests 19 = .ok (.invokevirtual 167, 3) := by decide +kernel
theorem dX4_rests_22 : decode cX4_rests 22 = .ok (.iconst 0, 1) := by decide +kernel
theorem dX4_rests_23 : decode cX4_rests 23 = .ok (.istore_n 2, 1) := by decide +kernel
theorem dX4_rests_24 : decode cX4_rests 24 = .ok (.iconst 0, 1) := by decide +kernel
theorem dX4_rests_25 : decode cX4_rests 25 = .ok (.istore_n 3, 1) := by decide +kernel
theorem dX4_rests_26 : decode cX4_rests 26 = .ok (.iload_n 3, 1) := by decide +kernel
theorem dX4_rests_27 : decode cX4_rests 27 = .ok (.bipush 65, 2) := by decide +kernel
theorem dX4_rests_29 : decode cX4_rests 29 = .ok (.if_icmp .gt 57, 3) := by decide +kernel
theorem dX4_rests_32 : decode cX4_rests 32 = .ok (.iload_n 3, 1) := by decide +kernel
theorem dX4_rests_33 : decode cX4_rests 33 = .ok (.iload_n 2, 1) := by decide +kernel
theorem dX4_rests_34 : decode cX4_rests 34 = .ok (.isub, 1) := by decide +kernel
theorem dX4_rests_35 : decode cX4_rests 35 = .ok (.iconst 5, 1) := by decide +kernel
theorem dX4_rests_36 : decode cX4_rests 36 = .ok (.if_icmp .ne 5, 3) := by decide +kernel
theorem dX4_rests_39 : decode cX4_rests 39 = .ok (.iload_n 2, 1) := by decide +kernel
theorem dX4_rests_40 : decode cX4_rests 40 = .ok (.ireturn, 1) := by decide +kernel
theorem dX4_rests_41 : decode cX4_rests 41 = .ok (.aload_n 0, 1) := by decide +kernel
theorem dX4_rests_42 : decode cX4_rests 42 = .ok (.getfield 32, 3) := by decide +kernel
theorem dX4_rests_45 : decode cX4_rests 45 = .ok (.getfield 106, 3) := by decide +kernel
theorem dX4_rests_48 : decode cX4_rests 48 = .ok (.istore 4, 2) := by decide +kernel
theorem dX4_rests_50 : decode cX4_rests 50 = .ok (.aload_n 0, 1) := by decide +kernel
theorem dX4_rests_51 : decode cX4_rests 51 = .ok (.getfield 32, 3) := by decide +kernel
theorem dX4_rests_54 : decode cX4_rests 54 = .ok (.aload_n 0, 1) := by decide +kernel
theorem dX4_rests_55 : decode cX4_rests 55 = .ok (.getfield 12, 3) := by decide +kernel
theorem dX4_rests_58 : decode cX4_rests 58 = .ok (.getfield 122, 3) := by decide +kernel
theorem dX4_rests_61 : decode cX4_rests 61 = .ok (.invokevirtual 184, 3) := by decide +kernel
theorem dX4_rests_64 : decode cX4_rests 64 = .ok (.aload_n 0, 1) := by decide +kernel
theorem dX4_rests_65 : decode cX4_rests 65 = .ok (.getfield 32, 3) := by decide +kernel
theorem dX4_rests_68 : decode cX4_rests 68 = .ok (.getfield 106, 3) := by decide +kernel
theorem dX4_rests_71 : decode cX4_rests 71 = .ok (.iload 4, 2) := by decide +kernel
theorem dX4_rests_73 : decode cX4_rests 73 = .ok (.if_icmp .eq 7, 3) := by decide +kernel
theorem dX4_rests_76 : decode cX4_rests 76 = .ok (.iload_n 3, 1) := by decide +kernel
theorem dX4_rests_77 : decode cX4_rests 77 = .ok (.iconst 1, 1) := by decide +kernel
theorem dX4_rests_78 : decode cX4_rests 78 = .ok (.iadd, 1) := by decide +kernel
theorem dX4_rests_79 : decode cX4_rests 79 = .ok (.istore_n 2, 1) := by decide +kernel
theorem dX4_rests_80 : decode cX4_rests 80 = .ok (.iinc 3 1, 3) := by decide +kernel
theorem dX4_rests_83 : decode cX4_rests 83 = .ok (.goto (-57), 3) := by decide +kernel
theorem dX4_rests_86 : decode cX4_rests 86 = .ok (.bipush (-9), 2) := by decide +kernel
theorem dX4_rests_88 : decode cX4_rests 88 = .ok (.ireturn, 1) := by decide +kernel
theorem dX4_meet_0 : decode cX4_meet 0 = .ok (.aload_n 0, 1) := by decide +kernel
theorem dX4_meet_1 : decode cX4_meet 1 = .ok (.getfield 12, 3) := by decide +kernel
theorem dX4_meet_4 : decode cX4_meet 4 = .ok (.iload_n 1, 1) := by decide +kernel
theorem dX4_meet_5 : decode cX4_meet 5 = .ok (.invokevirtual 85, 3) := by decide +kernel
theorem dX4_meet_8 : decode cX4_meet 8 = .ok (.ifCond .eq 19, 3) := by decide +kernel
theorem dX4_meet_11 : decode cX4_meet 11 = .ok (.aload_n 0, 1) := by decide +kernel
theorem dX4_meet_12 : decode cX4_meet 12 = .ok (.getfield 12, 3) := by decide +kernel
theorem dX4_meet_15 : decode cX4_meet 15 = .ok (.iload_n 2, 1) := by decide +kernel
theorem dX4_meet_16 : decode cX4_meet 16 = .ok (.invokevirtual 85, 3) := by decide +kernel
theorem dX4_meet_19 : decode cX4_meet 19 = .ok (.ifCond .eq 8, 3) := by decide +kernel
theorem dX4_meet_22 : decode cX4_meet 22 = .ok (.iload_n 1, 1) := by decide +kernel
theorem dX4_meet_23 : decode cX4_meet 23 = .ok (.iload_n 2, 1) := by decide +kernel
theorem dX4_meet_24 : decode cX4_meet 24 = .ok (.if_icmp .ne 9, 3) := by decide +kernel
theorem dX4_meet_27 : decode cX4_meet 27 = .ok (.aload_n 0, 1) := by decide +kernel
theorem dX4_meet_28 : decode cX4_meet 28 = .ok (.iconst (-1), 1) := by decide +kernel
theorem dX4_meet_29 : decode cX4_meet 29 = .ok (.invokevirtual 63, 3) := by decide +kernel
theorem dX4_meet_32 : decode cX4_meet 32 = .ok (.ireturn, 1) := by decide +kernel
theorem dX4_meet_33 : decode cX4_meet 33 = .ok (.iload_n 3, 1) := by decide +kernel
theorem dX4_meet_34 : decode cX4_meet 34 = .ok (.iconst 2, 1) := by decide +kernel
theorem dX4_meet_35 : decode cX4_meet 35 = .ok (.invokestatic 149, 3) := by decide +kernel
theorem dX4_meet_38 : decode cX4_meet 38 = .ok (.ifCond .ne 10, 3) := by decide +kernel
theorem dX4_meet_41 : decode cX4_meet 41 = .ok (.aload_n 0, 1) := by decide +kernel
theorem dX4_meet_42 : decode cX4_meet 42 = .ok (.bipush (-2), 2) := by decide +kernel
theorem dX4_meet_44 : decode cX4_meet 44 = .ok (.invokevirtual 63, 3) := by decide +kernel
theorem dX4_meet_47 : decode cX4_meet 47 = .ok (.ireturn, 1) := by decide +kernel
theorem dX4_meet_48 : decode cX4_meet 48 = .ok (.aload_n 0, 1) := by decide +kernel
theorem dX4_meet_49 : decode cX4_meet 49 = .ok (.iload_n 1, 1) := by decide +kernel
theorem dX4_meet_50 : decode cX4_meet 50 = .ok (.invokevirtual 167, 3) := by decide +kernel
theorem dX4_meet_53 : decode cX4_meet 53 = .ok (.aload_n 0, 1) := by decide +kernel
theorem dX4_meet_54 : decode cX4_meet 54 = .ok (.getfield 36, 3) := by decide +kernel
theorem dX4_meet_57 : decode cX4_meet 57 = .ok (.aload_n 0, 1) := by decide +kernel
theorem dX4_meet_58 : decode cX4_meet 58 = .ok (.getfield 12, 3) := by decide +kernel
theorem dX4_meet_61 : decode cX4_meet 61 = .ok (.getfield 89, 3) := by decide +kernel
theorem dX4_meet_64 : decode cX4_meet 64 = .ok (.iload_n 2, 1) := by decide +kernel
theorem dX4_meet_65 : decode cX4_meet 65 = .ok (.aaload, 1) := by decide +kernel
theorem dX4_meet_66 : decode cX4_meet 66 = .ok (.invokevirtual 188, 3) := by decide +kernel
theorem dX4_meet_69 : decode cX4_meet 69 = .ok (.iconst 0, 1) := by decide +kernel
theorem dX4_meet_70 : decode cX4_meet 70 = .ok (.istore 4, 2) := by decide +kernel
theorem dX4_meet_72 : decode cX4_meet 72 = .ok (.iload 4, 2) := by decide +kernel
theorem dX4_meet_74 : decode cX4_meet 74 = .ok (.bipush 60, 2) := by decide +kernel
theorem dX4_meet_76 : decode cX4_meet 76 = .ok (.if_icmp .gt 71, 3) := by decide +kernel
theorem dX4_meet_79 : decode cX4_meet 79 = .ok (.aload_n 0, 1) := by decide +kernel
theorem dX4_meet_80 : decode cX4_meet 80 = .ok (.getfield 32, 3) := by decide +kernel
theorem dX4_meet_83 : decode cX4_meet 83 = .ok (.getfield 106, 3) := by decide +kernel
theorem dX4_meet_86 : decode cX4_meet 86 = .ok (.aload_n 0, 1) := by decide +kernel
theorem dX4_meet_87 : decode cX4_meet 87 = .ok (.getfield 36, 3) := by decide +kernel
theorem dX4_meet_90 : decode cX4_meet 90 = .ok (.getfield 106, 3) := by decide +kernel
theorem dX4_meet_93 : decode cX4_meet 93 = .ok (.if_icmp .ne 20, 3) := by decide +kernel
theorem dX4_meet_96 : decode cX4_meet 96 = .ok (.iload_n 3, 1) := by decide +kernel
theorem dX4_meet_97 : decode cX4_meet 97 = .ok (.ifCond .ne 8, 3) := by decide +kernel
theorem dX4_meet_100 : decode cX4_meet 100 = .ok (.iload 4, 2) := by decide +kernel
theorem dX4_meet_102 : decode cX4_meet 102 = .ok (.goto 10, 3) := by decide +kernel
theorem dX4_meet_105 : decode cX4_meet 105 = .ok (.aload_n 0, 1) := by decide +kernel
theorem dX4_meet_106 : decode cX4_meet 106 = .ok (.getfield 32, 3) := by decide +kernel
theorem dX4_meet_109 : decode cX4_meet 109 = .ok (.getfield 106, 3) := by decide +kernel
theorem dX4_meet_112 : decode cX4_meet 112 = .ok (.ireturn, 1) := by decide +kernel
theorem dX4_meet_113 : decode cX4_meet 113 = .ok (.aload_n 0, 1) := by decide +kernel
theorem dX4_meet_114 : decode cX4_meet 114 = .ok (.getfield 32, 3) := by decide +kernel
theorem dX4_meet_117 : decode cX4_meet 117 = .ok (.aload_n 0, 1) := by decide +kernel
theorem dX4_meet_118 : decode cX4_meet 118 = .ok (.getfield 12, 3) := by decide +kernel
theorem dX4_meet_121 : decode cX4_meet 121 = .ok (.getfield 122, 3) := by decide +kernel
theorem dX4_meet_124 : decode cX4_meet 124 = .ok (.invokevirtual 184, 3) := by decide +kernel
theorem dX4_meet_127 : decode cX4_meet 127 = .ok (.aload_n 0, 1) := by decide +kernel
theorem dX4_meet_128 : decode cX4_meet 128 = .ok (.getfield 36, 3) := by decide +kernel
theorem dX4_meet_131 : decode cX4_meet 131 = .ok (.aload_n 0, 1) := by decide +kernel
theorem dX4_meet_132 : decode cX4_meet 132 = .ok (.getfield 12, 3) := by decide +kernel
theorem dX4_meet_135 : decode cX4_meet 135 = .ok (.getfield 122, 3) := by decide +kernel
theorem dX4_meet_138 : decode cX4_meet 138 = .ok (.invokevirtual 184, 3) := by decide +kernel
theorem dX4_meet_141 : decode cX4_meet 141 = .ok (.iinc 4 1, 3) := by decide +kernel
theorem dX4_meet_144 : decode cX4_meet 144 = .ok (.goto (-72), 3) := by decide +kernel
theorem dX4_meet_147 : decode cX4_meet 147 = .ok (.bipush (-9), 2) := by decide +kernel
theorem dX4_meet_149 : decode cX4_meet 149 = .ok (.ireturn, 1) := by decide +kernel
theorem dX4_arrived_0 : decode cX4_arrived 0 = .ok (.ldc2_w 191, 3) := by decide +kernel
theorem dX4_arrived_3 : decode cX4_arrived 3 = .ok (.lstore_n 1, 1) := by decide +kernel
theorem dX4_arrived_4 : decode cX4_arrived 4 = .ok (.iconst 0, 1) := by decide +kernel
theorem dX4_arrived_5 : decode cX4_arrived 5 = .ok (.istore_n 3, 1) := by decide +kernel
theorem dX4_arrived_6 : decode cX4_arrived 6 = .ok (.iload_n 3, 1) := by decide +kernel
theorem dX4_arrived_7 : decode cX4_arrived 7 = .ok (.aload_n 0, 1) := by decide +kernel
theorem dX4_arrived_8 : decode cX4_arrived 8 = .ok (.getfield 12, 3) := by decide +kernel
theorem dX4_arrived_11 : decode cX4_arrived 11 = .ok (.getfield 181, 3) := by decide +kernel
theorem dX4_arrived_14 : decode cX4_arrived 14 = .ok (.if_icmp .ge 21, 3) := by decide +kernel
theorem dX4_arrived_17 : decode cX4_arrived 17 = .ok (.aload_n 0, 1) := by decide +kernel
theorem dX4_arrived_18 : decode cX4_arrived 18 = .ok (.iload_n 3, 1) := by decide +kernel
theorem dX4_arrived_19 : decode cX4_arrived 19 = .ok (.invokevirtual 167, 3) := by decide +kernel
theorem dX4_arrived_22 : decode cX4_arrived 22 = .ok (.lload_n 1, 1) := by decide +kernel
theorem dX4_arrived_23 : decode cX4_arrived 23 = .ok (.aload_n 0, 1) := by decide +kernel
theorem dX4_arrived_24 : decode cX4_arrived 24 = .ok (.invokevirtual 193, 3) := by decide +kernel
theorem dX4_arrived_27 : decode cX4_arrived 27 = .ok (.land, 1) := by decide +kernel
theorem dX4_arrived_28 : decode cX4_arrived 28 = .ok (.lstore_n 1, 1) := by decide +kernel
theorem dX4_arrived_29 : decode cX4_arrived 29 = .ok (.iinc 3 1, 3) := by decide +kernel
theorem dX4_arrived_32 : decode cX4_arrived 32 = .ok (.goto (-26), 3) := by decide +kernel
theorem dX4_arrived_35 : decode cX4_arrived 35 = .ok (.iconst 0, 1) := by decide +kernel
theorem dX4_arrived_36 : decode cX4_arrived 36 = .ok (.istore_n 3, 1) := by decide +kernel
theorem dX4_arrived_37 : decode cX4_arrived 37 = .ok (.iload_n 3, 1) := by decide +kernel
theorem dX4_arrived_38 : decode cX4_arrived 38 = .ok (.bipush 60, 2) := by decide +kernel
theorem dX4_arrived_40 : decode cX4_arrived 40 = .ok (.if_icmp .gt 21, 3) := by decide +kernel
theorem dX4_arrived_43 : decode cX4_arrived 43 = .ok (.lload_n 1, 1) := by decide +kernel
theorem dX4_arrived_44 : decode cX4_arrived 44 = .ok (.iload_n 3, 1) := by decide +kernel
theorem dX4_arrived_45 : decode cX4_arrived 45 = .ok (.lshr, 1) := by decide +kernel
theorem dX4_arrived_46 : decode cX4_arrived 46 = .ok (.lconst 1, 1) := by decide +kernel
theorem dX4_arrived_47 : decode cX4_arrived 47 = .ok (.land, 1) := by decide +kernel
theorem dX4_arrived_48 : decode cX4_arrived 48 = .ok (.lconst 1, 1) := by decide +kernel
theorem dX4_arrived_49 : decode cX4_arrived 49 = .ok (.lcmp, 1) := by decide +kernel
theorem dX4_arrived_50 : decode cX4_arrived 50 = .ok (.ifCond .ne 5, 3) := by decide +kernel
theorem dX4_arrived_53 : decode cX4_arrived 53 = .ok (.iload_n 3, 1) := by decide +kernel
theorem dX4_arrived_54 : decode cX4_arrived 54 = .ok (.ireturn, 1) := by decide +kernel
theorem dX4_arrived_55 : decode cX4_arrived 55 = .ok (.iinc 3 1, 3) := by decide +kernel
theorem dX4_arrived_58 : decode cX4_arrived 58 = .ok (.goto (-21), 3) := by decide +kernel
theorem dX4_arrived_61 : decode cX4_arrived 61 = .ok (.bipush (-9), 2) := by decide +kernel
theorem dX4_arrived_63 : decode cX4_arrived 63 = .ok (.ireturn, 1) := by decide +kernel
theorem dX4_shoe_0 : decode cX4_shoe 0 = .ok (.aload_n 0, 1) := by decide +kernel
theorem dX4_shoe_1 : decode cX4_shoe 1 = .ok (.getfield 12, 3) := by decide +kernel
theorem dX4_shoe_4 : decode cX4_shoe 4 = .ok (.iload_n 1, 1) := by decide +kernel
theorem dX4_shoe_5 : decode cX4_shoe 5 = .ok (.invokevirtual 85, 3) := by decide +kernel
theorem dX4_shoe_8 : decode cX4_shoe 8 = .ok (.ifCond .eq 10, 3) := by decide +kernel
theorem dX4_shoe_11 : decode cX4_shoe 11 = .ok (.iload_n 2, 1) := by decide +kernel
theorem dX4_shoe_12 : decode cX4_shoe 12 = .ok (.invokestatic 119, 3) := by decide +kernel
theorem dX4_shoe_15 : decode cX4_shoe 15 = .ok (.ifCond .ne 9, 3) := by decide +kernel
theorem dX4_shoe_18 : decode cX4_shoe 18 = .ok (.aload_n 0, 1) := by decide +kernel
theorem dX4_shoe_19 : decode cX4_shoe 19 = .ok (.iconst (-1), 1) := by decide +kernel
theorem dX4_shoe_20 : decode cX4_shoe 20 = .ok (.invokevirtual 63, 3) := by decide +kernel
theorem dX4_shoe_23 : decode cX4_shoe 23 = .ok (.ireturn, 1) := by decide +kernel
theorem dX4_shoe_24 : decode cX4_shoe 24 = .ok (.iload_n 3, 1) := by decide +kernel
theorem dX4_shoe_25 : decode cX4_shoe 25 = .ok (.iconst 2, 1) := by decide +kernel
theorem dX4_shoe_26 : decode cX4_shoe 26 = .ok (.invokestatic 149, 3) := by decide +kernel
theorem dX4_shoe_29 : decode cX4_shoe 29 = .ok (.ifCond .ne 10, 3) := by decide +kernel
theorem dX4_shoe_32 : decode cX4_shoe 32 = .ok (.aload_n 0, 1) := by decide +kernel
theorem dX4_shoe_33 : decode cX4_shoe 33 = .ok (.bipush (-2), 2) := by decide +kernel
theorem dX4_shoe_35 : decode cX4_shoe 35 = .ok (.invokevirtual 63, 3) := by decide +kernel
theorem dX4_shoe_38 : decode cX4_shoe 38 = .ok (.ireturn, 1) := by decide +kernel
theorem dX4_shoe_39 : decode cX4_shoe 39 = .ok (.bipush (-9), 2) := by decide +kernel
theorem dX4_shoe_41 : decode cX4_shoe 41 = .ok (.istore 4, 2) := by decide +kernel
theorem dX4_shoe_43 : decode cX4_shoe 43 = .ok (.bipush 61, 2) := by decide +kernel
theorem dX4_shoe_45 : decode cX4_shoe 45 = .ok (.istore 5, 2) := by decide +kernel
theorem dX4_shoe_47 : decode cX4_shoe 47 = .ok (.iconst 0, 1) := by decide +kernel
theorem dX4_shoe_48 : decode cX4_shoe 48 = .ok (.istore 6, 2) := by decide +kernel
theorem dX4_shoe_50 : decode cX4_shoe 50 = .ok (.iload 6, 2) := by decide +kernel
theorem dX4_shoe_52 : decode cX4_shoe 52 = .ok (.iconst 4, 1) := by decide +kernel
theorem dX4_shoe_53 : decode cX4_shoe 53 = .ok (.if_icmp .gt 55, 3) := by decide +kernel
theorem dX4_shoe_56 : decode cX4_shoe 56 = .ok (.aload_n 0, 1) := by decide +kernel
theorem dX4_shoe_57 : decode cX4_shoe 57 = .ok (.iload_n 1, 1) := by decide +kernel
theorem dX4_shoe_58 : decode cX4_shoe 58 = .ok (.invokevirtual 167, 3) := by decide +kernel
theorem dX4_shoe_61 : decode cX4_shoe 61 = .ok (.aload_n 0, 1) := by decide +kernel
theorem dX4_shoe_62 : decode cX4_shoe 62 = .ok (.getfield 32, 3) := by decide +kernel
theorem dX4_shoe_65 : decode cX4_shoe 65 = .ok (.iload 6, 2) := by decide +kernel
theorem dX4_shoe_67 : decode cX4_shoe 67 = .ok (.putfield 109, 3) := by decide +kernel
theorem dX4_shoe_70 : decode cX4_shoe 70 = .ok (.aload_n 0, 1) := by decide +kernel
theorem dX4_shoe_71 : decode cX4_shoe 71 = .ok (.getfield 32, 3) := by decide +kernel
theorem dX4_shoe_74 : decode cX4_shoe 74 = .ok (.aload_n 0, 1) := by decide +kernel
theorem dX4_shoe_75 : decode cX4_shoe 75 = .ok (.getfield 12, 3) := by decide +kernel
theorem dX4_shoe_78 : decode cX4_shoe 78 = .ok (.getfield 122, 3) := by decide +kernel
theorem dX4_shoe_81 : decode cX4_shoe 81 = .ok (.iload_n 2, 1) := by decide +kernel
theorem dX4_shoe_82 : decode cX4_shoe 82 = .ok (.invokevirtual 197, 3) := by decide +kernel
theorem dX4_shoe_85 : decode cX4_shoe 85 = .ok (.istore 7, 2) := by decide +kernel
theorem dX4_shoe_87 : decode cX4_shoe 87 = .ok (.iload 7, 2) := by decide +kernel
theorem dX4_shoe_89 : decode cX4_shoe 89 = .ok (.iload 5, 2) := by decide +kernel
theorem dX4_shoe_91 : decode cX4_shoe 91 = .ok (.if_icmp .ge 11, 3) := by decide +kernel
theorem dX4_shoe_94 : decode cX4_shoe 94 = .ok (.iload 7, 2) := by decide +kernel
theorem dX4_shoe_96 : decode cX4_shoe 96 = .ok (.istore 5, 2) := by decide +kernel
theorem dX4_shoe_98 : decode cX4_shoe 98 = .ok (.iload 6, 2) := by decide +kernel
theorem dX4_shoe_100 : decode cX4_shoe 100 = .ok (.istore 4, 2) := by decide +kernel
theorem dX4_shoe_102 : decode cX4_shoe 102 = .ok (.iinc 6 1, 3) := by decide +kernel
theorem dX4_shoe_105 : decode cX4_shoe 105 = .ok (.goto (-55), 3) := by decide +kernel
theorem dX4_shoe_108 : decode cX4_shoe 108 = .ok (.iload_n 3, 1) := by decide +kernel
theorem dX4_shoe_109 : decode cX4_shoe 109 = .ok (.ifCond .ne 8, 3) := by decide +kernel
theorem dX4_shoe_112 : decode cX4_shoe 112 = .ok (.iload 4, 2) := by decide +kernel
theorem dX4_shoe_114 : decode cX4_shoe 114 = .ok (.goto 8, 3) := by decide +kernel
theorem dX4_shoe_117 : decode cX4_shoe 117 = .ok (.iload 5, 2) := by decide +kernel
theorem dX4_shoe_119 : decode cX4_shoe 119 = .ok (.invokestatic 178, 3) := by decide +kernel
theorem dX4_shoe_122 : decode cX4_shoe 122 = .ok (.ireturn, 1) := by decide +kernel
theorem dX4_wish_0 : decode cX4_wish 0 = .ok (.aload_n 0, 1) := by decide +kernel
theorem dX4_wish_1 : decode cX4_wish 1 = .ok (.getfield 12, 3) := by decide +kernel
theorem dX4_wish_4 : decode cX4_wish 4 = .ok (.iload_n 1, 1) := by decide +kernel
theorem dX4_wish_5 : decode cX4_wish 5 = .ok (.invokevirtual 85, 3) := by decide +kernel
theorem dX4_wish_8 : decode cX4_wish 8 = .ok (.ifCond .eq 10, 3) := by decide +kernel
theorem dX4_wish_11 : decode cX4_wish 11 = .ok (.iload_n 2, 1) := by decide +kernel
theorem dX4_wish_12 : decode cX4_wish 12 = .ok (.invokestatic 119, 3) := by decide +kernel
theorem dX4_wish_15 : decode cX4_wish 15 = .ok (.ifCond .ne 9, 3) := by decide +kernel
theorem dX4_wish_18 : decode cX4_wish 18 = .ok (.aload_n 0, 1) := by decide +kernel
theorem dX4_wish_19 : decode cX4_wish 19 = .ok (.iconst (-1), 1) := by decide +kernel
theorem dX4_wish_20 : decode cX4_wish 20 = .ok (.invokevirtual 63, 3) := by decide +kernel
theorem dX4_wish_23 : decode cX4_wish 23 = .ok (.ireturn, 1) := by decide +kernel
theorem dX4_wish_24 : decode cX4_wish 24 = .ok (.bipush (-9), 2) := by decide +kernel
theorem dX4_wish_26 : decode cX4_wish 26 = .ok (.istore_n 3, 1) := by decide +kernel
theorem dX4_wish_27 : decode cX4_wish 27 = .ok (.aload_n 0, 1) := by decide +kernel
theorem dX4_wish_28 : decode cX4_wish 28 = .ok (.iload_n 1, 1) := by decide +kernel
theorem dX4_wish_29 : decode cX4_wish 29 = .ok (.iload_n 2, 1) := by decide +kernel
theorem dX4_wish_30 : decode cX4_wish 30 = .ok (.invokevirtual 175, 3) := by decide +kernel
theorem dX4_wish_33 : decode cX4_wish 33 = .ok (.istore 4, 2) := by decide +kernel
theorem dX4_wish_35 : decode cX4_wish 35 = .ok (.iconst 0, 1) := by decide +kernel
theorem dX4_wish_36 : decode cX4_wish 36 = .ok (.istore 5, 2) := by decide +kernel
theorem dX4_wish_38 : decode cX4_wish 38 = .ok (.iload 5, 2) := by decide +kernel
theorem dX4_wish_40 : decode cX4_wish 40 = .ok (.bipush 8, 2) := by decide +kernel
theorem dX4_wish_42 : decode cX4_wish 42 = .ok (.if_icmp .ge 54, 3) := by decide +kernel
theorem dX4_wish_45 : decode cX4_wish 45 = .ok (.aload_n 0, 1) := by decide +kernel
theorem dX4_wish_46 : decode cX4_wish 46 = .ok (.iload_n 1, 1) := by decide +kernel
theorem dX4_wish_47 : decode cX4_wish 47 = .ok (.invokevirtual 167, 3) := by decide +kernel
theorem dX4_wish_50 : decode cX4_wish 50 = .ok (.aload_n 0, 1) := by decide +kernel
theorem dX4_wish_51 : decode cX4_wish 51 = .ok (.getfield 32, 3) := by decide +kernel
theorem dX4_wish_54 : decode cX4_wish 54 = .ok (.iload 5, 2) := by decide +kernel
theorem dX4_wish_56 : decode cX4_wish 56 = .ok (.putfield 100, 3) := by decide +kernel
theorem dX4_wish_59 : decode cX4_wish 59 = .ok (.aload_n 0, 1) := by decide +kernel
theorem dX4_wish_60 : decode cX4_wish 60 = .ok (.getfield 32, 3) := by decide +kernel
theorem dX4_wish_63 : decode cX4_wish 63 = .ok (.aload_n 0, 1) := by decide +kernel
theorem dX4_wish_64 : decode cX4_wish 64 = .ok (.getfield 12, 3) := by decide +kernel
theorem dX4_wish_67 : decode cX4_wish 67 = .ok (.getfield 122, 3) := by decide +kernel
theorem dX4_wish_70 : decode cX4_wish 70 = .ok (.iload_n 2, 1) := by decide +kernel
theorem dX4_wish_71 : decode cX4_wish 71 = .ok (.invokevirtual 197, 3) := by decide +kernel
theorem dX4_wish_74 : decode cX4_wish 74 = .ok (.istore 6, 2) := by decide +kernel
theorem dX4_wish_76 : decode cX4_wish 76 = .ok (.iload 6, 2) := by decide +kernel
theorem dX4_wish_78 : decode cX4_wish 78 = .ok (.iload 4, 2) := by decide +kernel
theorem dX4_wish_80 : decode cX4_wish 80 = .ok (.if_icmp .ge 10, 3) := by decide +kernel
theorem dX4_wish_83 : decode cX4_wish 83 = .ok (.iload 6, 2) := by decide +kernel
theorem dX4_wish_85 : decode cX4_wish 85 = .ok (.istore 4, 2) := by decide +kernel
theorem dX4_wish_87 : decode cX4_wish 87 = .ok (.iload 5, 2) := by decide +kernel
theorem dX4_wish_89 : decode cX4_wish 89 = .ok (.istore_n 3, 1) := by decide +kernel
theorem dX4_wish_90 : decode cX4_wish 90 = .ok (.iinc 5 1, 3) := by decide +kernel
theorem dX4_wish_93 : decode cX4_wish 93 = .ok (.goto (-55), 3) := by decide +kernel
theorem dX4_wish_96 : decode cX4_wish 96 = .ok (.iload_n 3, 1) := by decide +kernel
theorem dX4_wish_97 : decode cX4_wish 97 = .ok (.ireturn, 1) := by decide +kernel
theorem dX4_road_0 : decode cX4_road 0 = .ok (.aload_n 0, 1) := by decide +kernel
theorem dX4_road_1 : decode cX4_road 1 = .ok (.getfield 12, 3) := by decide +kernel
theorem dX4_road_4 : decode cX4_road 4 = .ok (.iload_n 1, 1) := by decide +kernel
theorem dX4_road_5 : decode cX4_road 5 = .ok (.invokevirtual 85, 3) := by decide +kernel
theorem dX4_road_8 : decode cX4_road 8 = .ok (.ifCond .eq 10, 3) := by decide +kernel
theorem dX4_road_11 : decode cX4_road 11 = .ok (.iload_n 2, 1) := by decide +kernel
theorem dX4_road_12 : decode cX4_road 12 = .ok (.invokestatic 119, 3) := by decide +kernel
theorem dX4_road_15 : decode cX4_road 15 = .ok (.ifCond .ne 9, 3) := by decide +kernel
theorem dX4_road_18 : decode cX4_road 18 = .ok (.aload_n 0, 1) := by decide +kernel
theorem dX4_road_19 : decode cX4_road 19 = .ok (.iconst (-1), 1) := by decide +kernel
theorem dX4_road_20 : decode cX4_road 20 = .ok (.invokevirtual 63, 3) := by decide +kernel
theorem dX4_road_23 : decode cX4_road 23 = .ok (.ireturn, 1) := by decide +kernel
theorem dX4_road_24 : decode cX4_road 24 = .ok (.bipush (-9), 2) := by decide +kernel
theorem dX4_road_26 : decode cX4_road 26 = .ok (.istore_n 3, 1) := by decide +kernel
theorem dX4_road_27 : decode cX4_road 27 = .ok (.aload_n 0, 1) := by decide +kernel
theorem dX4_road_28 : decode cX4_road 28 = .ok (.iload_n 1, 1) := by decide +kernel
theorem dX4_road_29 : decode cX4_road 29 = .ok (.iload_n 2, 1) := by decide +kernel
theorem dX4_road_30 : decode cX4_road 30 = .ok (.invokevirtual 175, 3) := by decide +kernel
theorem dX4_road_33 : decode cX4_road 33 = .ok (.istore 4, 2) := by decide +kernel
theorem dX4_road_35 : decode cX4_road 35 = .ok (.iconst 0, 1) := by decide +kernel
theorem dX4_road_36 : decode cX4_road 36 = .ok (.istore 5, 2) := by decide +kernel
theorem dX4_road_38 : decode cX4_road 38 = .ok (.iload 5, 2) := by decide +kernel
theorem dX4_road_40 : decode cX4_road 40 = .ok (.bipush 8, 2) := by decide +kernel
theorem dX4_road_42 : decode cX4_road 42 = .ok (.if_icmp .ge 82, 3) := by decide +kernel
theorem dX4_road_45 : decode cX4_road 45 = .ok (.iload 5, 2) := by decide +kernel
theorem dX4_road_47 : decode cX4_road 47 = .ok (.iconst 1, 1) := by decide +kernel
theorem dX4_road_48 : decode cX4_road 48 = .ok (.iadd, 1) := by decide +kernel
theorem dX4_road_49 : decode cX4_road 49 = .ok (.istore 6, 2) := by decide +kernel
theorem dX4_road_51 : decode cX4_road 51 = .ok (.iload 6, 2) := by decide +kernel
theorem dX4_road_53 : decode cX4_road 53 = .ok (.bipush 8, 2) := by decide +kernel
theorem dX4_road_55 : decode cX4_road 55 = .ok (.if_icmp .ge 63, 3) := by decide +kernel
theorem dX4_road_58 : decode cX4_road 58 = .ok (.aload_n 0, 1) := by decide +kernel
theorem dX4_road_59 : decode cX4_road 59 = .ok (.getfield 12, 3) := by decide +kernel
theorem dX4_road_62 : decode cX4_road 62 = .ok (.getfield 122, 3) := by decide +kernel
theorem dX4_road_65 : decode cX4_road 65 = .ok (.iload 5, 2) := by decide +kernel
theorem dX4_road_67 : decode cX4_road 67 = .ok (.iload 6, 2) := by decide +kernel
theorem dX4_road_69 : decode cX4_road 69 = .ok (.invokevirtual 137, 3) := by decide +kernel
theorem dX4_road_72 : decode cX4_road 72 = .ok (.ifCond .eq 8, 3) := by decide +kernel
theorem dX4_road_75 : decode cX4_road 75 = .ok (.bipush 61, 2) := by decide +kernel
theorem dX4_road_77 : decode cX4_road 77 = .ok (.goto 13, 3) := by decide +kernel
theorem dX4_road_80 : decode cX4_road 80 = .ok (.aload_n 0, 1) := by decide +kernel
theorem dX4_road_81 : decode cX4_road 81 = .ok (.iload_n 1, 1) := by decide +kernel
theorem dX4_road_82 : decode cX4_road 82 = .ok (.iload_n 2, 1) := by decide +kernel
theorem dX4_road_83 : decode cX4_road 83 = .ok (.iload 5, 2) := by decide +kernel
theorem dX4_road_85 : decode cX4_road 85 = .ok (.iload 6, 2) := by decide +kernel
theorem dX4_road_87 : decode cX4_road 87 = .ok (.invokevirtual 200, 3) := by decide +kernel
theorem dX4_road_90 : decode cX4_road 90 = .ok (.istore 7, 2) := by decide +kernel
theorem dX4_road_92 : decode cX4_road 92 = .ok (.iload 7, 2) := by decide +kernel
theorem dX4_road_94 : decode cX4_road 94 = .ok (.iload 4, 2) := by decide +kernel
theorem dX4_road_96 : decode cX4_road 96 = .ok (.if_icmp .ge 16, 3) := by decide +kernel
theorem dX4_road_99 : decode cX4_road 99 = .ok (.iload 7, 2) := by decide +kernel
theorem dX4_road_101 : decode cX4_road 101 = .ok (.istore 4, 2) := by decide +kernel
theorem dX4_road_103 : decode cX4_road 103 = .ok (.bipush 10, 2) := by decide +kernel
theorem dX4_road_105 : decode cX4_road 105 = .ok (.iload 5, 2) := by decide +kernel
theorem dX4_road_107 : decode cX4_road 107 = .ok (.imul, 1) := by decide +kernel
theorem dX4_road_108 : decode cX4_road 108 = .ok (.iload 6, 2) := by decide +kernel
theorem dX4_road_110 : decode cX4_road 110 = .ok (.iadd, 1) := by decide +kernel
theorem dX4_road_111 : decode cX4_road 111 = .ok (.istore_n 3, 1) := by decide +kernel
theorem dX4_road_112 : decode cX4_road 112 = .ok (.iinc 6 1, 3) := by decide +kernel
theorem dX4_road_115 : decode cX4_road 115 = .ok (.goto (-64), 3) := by decide +kernel
theorem dX4_road_118 : decode cX4_road 118 = .ok (.iinc 5 1, 3) := by decide +kernel
theorem dX4_road_121 : decode cX4_road 121 = .ok (.goto (-83), 3) := by decide +kernel
theorem dX4_road_124 : decode cX4_road 124 = .ok (.iload_n 3, 1) := by decide +kernel
theorem dX4_road_125 : decode cX4_road 125 = .ok (.ireturn, 1) := by decide +kernel
theorem dX4_cut_0 : decode cX4_cut 0 = .ok (.aload_n 0, 1) := by decide +kernel
theorem dX4_cut_1 : decode cX4_cut 1 = .ok (.getfield 12, 3) := by decide +kernel
theorem dX4_cut_4 : decode cX4_cut 4 = .ok (.iload_n 1, 1) := by decide +kernel
theorem dX4_cut_5 : decode cX4_cut 5 = .ok (.invokevirtual 85, 3) := by decide +kernel
theorem dX4_cut_8 : decode cX4_cut 8 = .ok (.ifCond .eq 10, 3) := by decide +kernel
theorem dX4_cut_11 : decode cX4_cut 11 = .ok (.iload_n 2, 1) := by decide +kernel
theorem dX4_cut_12 : decode cX4_cut 12 = .ok (.invokestatic 119, 3) := by decide +kernel
theorem dX4_cut_15 : decode cX4_cut 15 = .ok (.ifCond .ne 9, 3) := by decide +kernel
theorem dX4_cut_18 : decode cX4_cut 18 = .ok (.aload_n 0, 1) := by decide +kernel
theorem dX4_cut_19 : decode cX4_cut 19 = .ok (.iconst (-1), 1) := by decide +kernel
theorem dX4_cut_20 : decode cX4_cut 20 = .ok (.invokevirtual 63, 3) := by decide +kernel
theorem dX4_cut_23 : decode cX4_cut 23 = .ok (.ireturn, 1) := by decide +kernel
theorem dX4_cut_24 : decode cX4_cut 24 = .ok (.aload_n 0, 1) := by decide +kernel
theorem dX4_cut_25 : decode cX4_cut 25 = .ok (.iload_n 1, 1) := by decide +kernel
theorem dX4_cut_26 : decode cX4_cut 26 = .ok (.iload_n 2, 1) := by decide +kernel
theorem dX4_cut_27 : decode cX4_cut 27 = .ok (.invokevirtual 175, 3) := by decide +kernel
theorem dX4_cut_30 : decode cX4_cut 30 = .ok (.bipush 61, 2) := by decide +kernel
theorem dX4_cut_32 : decode cX4_cut 32 = .ok (.if_icmp .ne 6, 3) := by decide +kernel
theorem dX4_cut_35 : decode cX4_cut 35 = .ok (.bipush (-9), 2) := by decide +kernel
theorem dX4_cut_37 : decode cX4_cut 37 = .ok (.ireturn, 1) := by decide +kernel
theorem dX4_cut_38 : decode cX4_cut 38 = .ok (.iconst 0, 1) := by decide +kernel
theorem dX4_cut_39 : decode cX4_cut 39 = .ok (.istore_n 3, 1) := by decide +kernel
theorem dX4_cut_40 : decode cX4_cut 40 = .ok (.iload_n 3, 1) := by decide +kernel
theorem dX4_cut_41 : decode cX4_cut 41 = .ok (.bipush 8, 2) := by decide +kernel
theorem dX4_cut_43 : decode cX4_cut 43 = .ok (.if_icmp .ge 65, 3) := by decide +kernel
theorem dX4_cut_46 : decode cX4_cut 46 = .ok (.iload_n 3, 1) := by decide +kernel
theorem dX4_cut_47 : decode cX4_cut 47 = .ok (.iconst 1, 1) := by decide +kernel
theorem dX4_cut_48 : decode cX4_cut 48 = .ok (.iadd, 1) := by decide +kernel
theorem dX4_cut_49 : decode cX4_cut 49 = .ok (.istore 4, 2) := by decide +kernel
theorem dX4_cut_51 : decode cX4_cut 51 = .ok (.iload 4, 2) := by decide +kernel
theorem dX4_cut_53 : decode cX4_cut 53 = .ok (.bipush 8, 2) := by decide +kernel
theorem dX4_cut_55 : decode cX4_cut 55 = .ok (.if_icmp .ge 47, 3) := by decide +kernel
theorem dX4_cut_58 : decode cX4_cut 58 = .ok (.aload_n 0, 1) := by decide +kernel
theorem dX4_cut_59 : decode cX4_cut 59 = .ok (.getfield 12, 3) := by decide +kernel
theorem dX4_cut_62 : decode cX4_cut 62 = .ok (.getfield 122, 3) := by decide +kernel
theorem dX4_cut_65 : decode cX4_cut 65 = .ok (.iload_n 3, 1) := by decide +kernel
theorem dX4_cut_66 : decode cX4_cut 66 = .ok (.iload 4, 2) := by decide +kernel
theorem dX4_cut_68 : decode cX4_cut 68 = .ok (.invokevirtual 137, 3) := by decide +kernel
theorem dX4_cut_71 : decode cX4_cut 71 = .ok (.ifCond .eq 25, 3) := by decide +kernel
theorem dX4_cut_74 : decode cX4_cut 74 = .ok (.aload_n 0, 1) := by decide +kernel
theorem dX4_cut_75 : decode cX4_cut 75 = .ok (.iload_n 1, 1) := by decide +kernel
theorem dX4_cut_76 : decode cX4_cut 76 = .ok (.iload_n 2, 1) := by decide +kernel
theorem dX4_cut_77 : decode cX4_cut 77 = .ok (.iload_n 3, 1) := by decide +kernel
theorem dX4_cut_78 : decode cX4_cut 78 = .ok (.iload 4, 2) := by decide +kernel
theorem dX4_cut_80 : decode cX4_cut 80 = .ok (.invokevirtual 200, 3) := by decide +kernel
theorem dX4_cut_83 : decode cX4_cut 83 = .ok (.bipush 61, 2) := by decide +kernel
theorem dX4_cut_85 : decode cX4_cut 85 = .ok (.if_icmp .ne 11, 3) := by decide +kernel
theorem dX4_cut_88 : decode cX4_cut 88 = .ok (.bipush 10, 2) := by decide +kernel
theorem dX4_cut_90 : decode cX4_cut 90 = .ok (.iload_n 3, 1) := by decide +kernel
theorem dX4_cut_91 : decode cX4_cut 91 = .ok (.imul, 1) := by decide +kernel
theorem dX4_cut_92 : decode cX4_cut 92 = .ok (.iload 4, 2) := by decide +kernel
theorem dX4_cut_94 : decode cX4_cut 94 = .ok (.iadd, 1) := by decide +kernel
theorem dX4_cut_95 : decode cX4_cut 95 = .ok (.ireturn, 1) := by decide +kernel
theorem dX4_cut_96 : decode cX4_cut 96 = .ok (.iinc 4 1, 3) := by decide +kernel
theorem dX4_cut_99 : decode cX4_cut 99 = .ok (.goto (-48), 3) := by decide +kernel
theorem dX4_cut_102 : decode cX4_cut 102 = .ok (.iinc 3 1, 3) := by decide +kernel
theorem dX4_cut_105 : decode cX4_cut 105 = .ok (.goto (-65), 3) := by decide +kernel
theorem dX4_cut_108 : decode cX4_cut 108 = .ok (.bipush (-9), 2) := by decide +kernel
theorem dX4_cut_110 : decode cX4_cut 110 = .ok (.ireturn, 1) := by decide +kernel
theorem dX4_inn_0 : decode cX4_inn 0 = .ok (.iload_n 1, 1) := by decide +kernel
theorem dX4_inn_1 : decode cX4_inn 1 = .ok (.iconst 0, 1) := by decide +kernel
theorem dX4_inn_2 : decode cX4_inn 2 = .ok (.bipush 30, 2) := by decide +kernel
theorem dX4_inn_4 : decode cX4_inn 4 = .ok (.invokestatic 163, 3) := by decide +kernel
theorem dX4_inn_7 : decode cX4_inn 7 = .ok (.istore_n 3, 1) := by decide +kernel
theorem dX4_inn_8 : decode cX4_inn 8 = .ok (.iload_n 3, 1) := by decide +kernel
theorem dX4_inn_9 : decode cX4_inn 9 = .ok (.ifCond .eq 9, 3) := by decide +kernel
theorem dX4_inn_12 : decode cX4_inn 12 = .ok (.aload_n 0, 1) := by decide +kernel
theorem dX4_inn_13 : decode cX4_inn 13 = .ok (.iload_n 3, 1) := by decide +kernel
theorem dX4_inn_14 : decode cX4_inn 14 = .ok (.invokevirtual 63, 3) := by decide +kernel
theorem dX4_inn_17 : decode cX4_inn 17 = .ok (.ireturn, 1) := by decide +kernel
theorem dX4_inn_18 : decode cX4_inn 18 = .ok (.iload_n 2, 1) := by decide +kernel
theorem dX4_inn_19 : decode cX4_inn 19 = .ok (.iconst 2, 1) := by decide +kernel
theorem dX4_inn_20 : decode cX4_inn 20 = .ok (.invokestatic 149, 3) := by decide +kernel
theorem dX4_inn_23 : decode cX4_inn 23 = .ok (.ifCond .ne 10, 3) := by decide +kernel
theorem dX4_inn_26 : decode cX4_inn 26 = .ok (.aload_n 0, 1) := by decide +kernel
theorem dX4_inn_27 : decode cX4_inn 27 = .ok (.bipush (-2), 2) := by decide +kernel
theorem dX4_inn_29 : decode cX4_inn 29 = .ok (.invokevirtual 63, 3) := by decide +kernel
theorem dX4_inn_32 : decode cX4_inn 32 = .ok (.ireturn, 1) := by decide +kernel
theorem dX4_inn_33 : decode cX4_inn 33 = .ok (.aload_n 0, 1) := by decide +kernel
theorem dX4_inn_34 : decode cX4_inn 34 = .ok (.iload_n 1, 1) := by decide +kernel
theorem dX4_inn_35 : decode cX4_inn 35 = .ok (.invokevirtual 204, 3) := by decide +kernel
theorem dX4_inn_38 : decode cX4_inn 38 = .ok (.iconst 0, 1) := by decide +kernel
theorem dX4_inn_39 : decode cX4_inn 39 = .ok (.istore 4, 2) := by decide +kernel
theorem dX4_inn_41 : decode cX4_inn 41 = .ok (.iconst 0, 1) := by decide +kernel
theorem dX4_inn_42 : decode cX4_inn 42 = .ok (.istore 5, 2) := by decide +kernel
theorem dX4_inn_44 : decode cX4_inn 44 = .ok (.iconst 0, 1) := by decide +kernel
theorem dX4_inn_45 : decode cX4_inn 45 = .ok (.istore 6, 2) := by decide +kernel
theorem dX4_inn_47 : decode cX4_inn 47 = .ok (.iload 6, 2) := by decide +kernel
theorem dX4_inn_49 : decode cX4_inn 49 = .ok (.bipush 8, 2) := by decide +kernel
theorem dX4_inn_51 : decode cX4_inn 51 = .ok (.if_icmp .ge 36, 3) := by decide +kernel
theorem dX4_inn_54 : decode cX4_inn 54 = .ok (.aload_n 0, 1) := by decide +kernel
theorem dX4_inn_55 : decode cX4_inn 55 = .ok (.getfield 53, 3) := by decide +kernel
theorem dX4_inn_58 : decode cX4_inn 58 = .ok (.iload 6, 2) := by decide +kernel
theorem dX4_inn_60 : decode cX4_inn 60 = .ok (.iaload, 1) := by decide +kernel
theorem dX4_inn_61 : decode cX4_inn 61 = .ok (.invokestatic 158, 3) := by decide +kernel
theorem dX4_inn_64 : decode cX4_inn 64 = .ok (.istore 7, 2) := by decide +kernel
theorem dX4_inn_66 : decode cX4_inn 66 = .ok (.iload 7, 2) := by decide +kernel
theorem dX4_inn_68 : decode cX4_inn 68 = .ok (.iload 5, 2) := by decide +kernel
theorem dX4_inn_70 : decode cX4_inn 70 = .ok (.if_icmp .le 11, 3) := by decide +kernel
theorem dX4_inn_73 : decode cX4_inn 73 = .ok (.iload 7, 2) := by decide +kernel
theorem dX4_inn_75 : decode cX4_inn 75 = .ok (.istore 5, 2) := by decide +kernel
theorem dX4_inn_77 : decode cX4_inn 77 = .ok (.iload 6, 2) := by decide +kernel
theorem dX4_inn_79 : decode cX4_inn 79 = .ok (.istore 4, 2) := by decide +kernel
theorem dX4_inn_81 : decode cX4_inn 81 = .ok (.iinc 6 1, 3) := by decide +kernel
theorem dX4_inn_84 : decode cX4_inn 84 = .ok (.goto (-37), 3) := by decide +kernel
theorem dX4_inn_87 : decode cX4_inn 87 = .ok (.iload_n 2, 1) := by decide +kernel
theorem dX4_inn_88 : decode cX4_inn 88 = .ok (.ifCond .ne 8, 3) := by decide +kernel
theorem dX4_inn_91 : decode cX4_inn 91 = .ok (.iload 4, 2) := by decide +kernel
theorem dX4_inn_93 : decode cX4_inn 93 = .ok (.goto 5, 3) := by decide +kernel
theorem dX4_inn_96 : decode cX4_inn 96 = .ok (.iload 5, 2) := by decide +kernel
theorem dX4_inn_98 : decode cX4_inn 98 = .ok (.ireturn, 1) := by decide +kernel
theorem dX4_busiest_0 : decode cX4_busiest 0 = .ok (.iconst 0, 1) := by decide +kernel
theorem dX4_busiest_1 : decode cX4_busiest 1 = .ok (.istore_n 1, 1) := by decide +kernel
theorem dX4_busiest_2 : decode cX4_busiest 2 = .ok (.iconst 1, 1) := by decide +kernel
theorem dX4_busiest_3 : decode cX4_busiest 3 = .ok (.istore_n 2, 1) := by decide +kernel
theorem dX4_busiest_4 : decode cX4_busiest 4 = .ok (.iload_n 2, 1) := by decide +kernel
theorem dX4_busiest_5 : decode cX4_busiest 5 = .ok (.bipush 8, 2) := by decide +kernel
theorem dX4_busiest_7 : decode cX4_busiest 7 = .ok (.if_icmp .ge 44, 3) := by decide +kernel
theorem dX4_busiest_10 : decode cX4_busiest 10 = .ok (.aload_n 0, 1) := by decide +kernel
theorem dX4_busiest_11 : decode cX4_busiest 11 = .ok (.getfield 12, 3) := by decide +kernel
theorem dX4_busiest_14 : decode cX4_busiest 14 = .ok (.getfield 122, 3) := by decide +kernel
theorem dX4_busiest_17 : decode cX4_busiest 17 = .ok (.getfield 207, 3) := by decide +kernel
theorem dX4_busiest_20 : decode cX4_busiest 20 = .ok (.iload_n 2, 1) := by decide +kernel
theorem dX4_busiest_21 : decode cX4_busiest 21 = .ok (.iaload, 1) := by decide +kernel
theorem dX4_busiest_22 : decode cX4_busiest 22 = .ok (.invokestatic 158, 3) := by decide +kernel
theorem dX4_busiest_25 : decode cX4_busiest 25 = .ok (.aload_n 0, 1) := by decide +kernel
theorem dX4_busiest_26 : decode cX4_busiest 26 = .ok (.getfield 12, 3) := by decide +kernel
theorem dX4_busiest_29 : decode cX4_busiest 29 = .ok (.getfield 122, 3) := by decide +kernel
theorem dX4_busiest_32 : decode cX4_busiest 32 = .ok (.getfield 207, 3) := by decide +kernel
theorem dX4_busiest_35 : decode cX4_busiest 35 = .ok (.iload_n 1, 1) := by decide +kernel
theorem dX4_busiest_36 : decode cX4_busiest 36 = .ok (.iaload, 1) := by decide +kernel
theorem dX4_busiest_37 : decode cX4_busiest 37 = .ok (.invokestatic 158, 3) := by decide +kernel
theorem dX4_busiest_40 : decode cX4_busiest 40 = .ok (.if_icmp .le 5, 3) := by decide +kernel
theorem dX4_busiest_43 : decode cX4_busiest 43 = .ok (.iload_n 2, 1) := by decide +kernel
theorem dX4_busiest_44 : decode cX4_busiest 44 = .ok (.istore_n 1, 1) := by decide +kernel
theorem dX4_busiest_45 : decode cX4_busiest 45 = .ok (.iinc 2 1, 3) := by decide +kernel
theorem dX4_busiest_48 : decode cX4_busiest 48 = .ok (.goto (-44), 3) := by decide +kernel
theorem dX4_busiest_51 : decode cX4_busiest 51 = .ok (.iload_n 1, 1) := by decide +kernel
theorem dX4_busiest_52 : decode cX4_busiest 52 = .ok (.ireturn, 1) := by decide +kernel
theorem dX4_near_0 : decode cX4_near 0 = .ok (.iload_n 1, 1) := by decide +kernel
theorem dX4_near_1 : decode cX4_near 1 = .ok (.invokestatic 119, 3) := by decide +kernel
theorem dX4_near_4 : decode cX4_near 4 = .ok (.ifCond .ne 9, 3) := by decide +kernel
theorem dX4_near_7 : decode cX4_near 7 = .ok (.aload_n 0, 1) := by decide +kernel
theorem dX4_near_8 : decode cX4_near 8 = .ok (.iconst (-1), 1) := by decide +kernel
theorem dX4_near_9 : decode cX4_near 9 = .ok (.invokevirtual 63, 3) := by decide +kernel
theorem dX4_near_12 : decode cX4_near 12 = .ok (.ireturn, 1) := by decide +kernel
theorem dX4_near_13 : decode cX4_near 13 = .ok (.aload_n 0, 1) := by decide +kernel
theorem dX4_near_14 : decode cX4_near 14 = .ok (.getfield 12, 3) := by decide +kernel
theorem dX4_near_17 : decode cX4_near 17 = .ok (.getfield 122, 3) := by decide +kernel
theorem dX4_near_20 : decode cX4_near 20 = .ok (.getfield 207, 3) := by decide +kernel
theorem dX4_near_23 : decode cX4_near 23 = .ok (.iload_n 1, 1) := by decide +kernel
theorem dX4_near_24 : decode cX4_near 24 = .ok (.iaload, 1) := by decide +kernel
theorem dX4_near_25 : decode cX4_near 25 = .ok (.ireturn, 1) := by decide +kernel
theorem dX4_apart_0 : decode cX4_apart 0 = .ok (.iload_n 1, 1) := by decide +kernel
theorem dX4_apart_1 : decode cX4_apart 1 = .ok (.tableswitch 69 0 3 #[31, 42, 53, 61], 31) := by decide +kernel
theorem dX4_apart_32 : decode cX4_apart 32 = .ok (.aload_n 0, 1) := by decide +kernel
theorem dX4_apart_33 : decode cX4_apart 33 = .ok (.getfield 12, 3) := by decide +kernel
theorem dX4_apart_36 : decode cX4_apart 36 = .ok (.getfield 122, 3) := by decide +kernel
theorem dX4_apart_39 : decode cX4_apart 39 = .ok (.invokevirtual 210, 3) := by decide +kernel
theorem dX4_apart_42 : decode cX4_apart 42 = .ok (.ireturn, 1) := by decide +kernel
theorem dX4_apart_43 : decode cX4_apart 43 = .ok (.aload_n 0, 1) := by decide +kernel
theorem dX4_apart_44 : decode cX4_apart 44 = .ok (.getfield 12, 3) := by decide +kernel
theorem dX4_apart_47 : decode cX4_apart 47 = .ok (.getfield 122, 3) := by decide +kernel
theorem dX4_apart_50 : decode cX4_apart 50 = .ok (.invokevirtual 213, 3) := by decide +kernel
theorem dX4_apart_53 : decode cX4_apart 53 = .ok (.ireturn, 1) := by decide +kernel
theorem dX4_apart_54 : decode cX4_apart 54 = .ok (.aload_n 0, 1) := by decide +kernel
theorem dX4_apart_55 : decode cX4_apart 55 = .ok (.getfield 12, 3) := by decide +kernel
theorem dX4_apart_58 : decode cX4_apart 58 = .ok (.invokevirtual 216, 3) := by decide +kernel
theorem dX4_apart_61 : decode cX4_apart 61 = .ok (.ireturn, 1) := by decide +kernel
theorem dX4_apart_62 : decode cX4_apart 62 = .ok (.aload_n 0, 1) := by decide +kernel
theorem dX4_apart_63 : decode cX4_apart 63 = .ok (.getfield 12, 3) := by decide +kernel
theorem dX4_apart_66 : decode cX4_apart 66 = .ok (.invokevirtual 219, 3) := by decide +kernel
theorem dX4_apart_69 : decode cX4_apart 69 = .ok (.ireturn, 1) := by decide +kernel
theorem dX4_apart_70 : decode cX4_apart 70 = .ok (.aload_n 0, 1) := by decide +kernel
theorem dX4_apart_71 : decode cX4_apart 71 = .ok (.bipush (-2), 2) := by decide +kernel
theorem dX4_apart_73 : decode cX4_apart 73 = .ok (.invokevirtual 63, 3) := by decide +kernel
theorem dX4_apart_76 : decode cX4_apart 76 = .ok (.ireturn, 1) := by decide +kernel
theorem dX4_tired_0 : decode cX4_tired 0 = .ok (.bipush (-9), 2) := by decide +kernel
theorem dX4_tired_2 : decode cX4_tired 2 = .ok (.istore_n 1, 1) := by decide +kernel
theorem dX4_tired_3 : decode cX4_tired 3 = .ok (.iconst (-1), 1) := by decide +kernel
theorem dX4_tired_4 : decode cX4_tired 4 = .ok (.istore_n 2, 1) := by decide +kernel
theorem dX4_tired_5 : decode cX4_tired 5 = .ok (.iconst 0, 1) := by decide +kernel
theorem dX4_tired_6 : decode cX4_tired 6 = .ok (.istore_n 3, 1) := by decide +kernel
theorem dX4_tired_7 : decode cX4_tired 7 = .ok (.iload_n 3, 1) := by decide +kernel
theorem dX4_tired_8 : decode cX4_tired 8 = .ok (.aload_n 0, 1) := by decide +kernel
theorem dX4_tired_9 : decode cX4_tired 9 = .ok (.getfield 12, 3) := by decide +kernel
theorem dX4_tired_12 : decode cX4_tired 12 = .ok (.getfield 181, 3) := by decide +kernel
theorem dX4_tired_15 : decode cX4_tired 15 = .ok (.if_icmp .ge 40, 3) := by decide +kernel
theorem dX4_tired_18 : decode cX4_tired 18 = .ok (.aload_n 0, 1) := by decide +kernel
theorem dX4_tired_19 : decode cX4_tired 19 = .ok (.getfield 12, 3) := by decide +kernel
theorem dX4_tired_22 : decode cX4_tired 22 = .ok (.getfield 89, 3) := by decide +kernel
theorem dX4_tired_25 : decode cX4_tired 25 = .ok (.iload_n 3, 1) := by decide +kernel
theorem dX4_tired_26 : decode cX4_tired 26 = .ok (.aaload, 1) := by decide +kernel
theorem dX4_tired_27 : decode cX4_tired 27 = .ok (.getfield 112, 3) := by decide +kernel
theorem dX4_tired_30 : decode cX4_tired 30 = .ok (.iload_n 2, 1) := by decide +kernel
theorem dX4_tired_31 : decode cX4_tired 31 = .ok (.if_icmp .le 18, 3) := by decide +kernel
theorem dX4_tired_34 : decode cX4_tired 34 = .ok (.aload_n 0, 1) := by decide +kernel
theorem dX4_tired_35 : decode cX4_tired 35 = .ok (.getfield 12, 3) := by decide +kernel
theorem dX4_tired_38 : decode cX4_tired 38 = .ok (.getfield 89, 3) := by decide +kernel
theorem dX4_tired_41 : decode cX4_tired 41 = .ok (.iload_n 3, 1) := by decide +kernel
theorem dX4_tired_42 : decode cX4_tired 42 = .ok (.aaload, 1) := by decide +kernel
theorem dX4_tired_43 : decode cX4_tired 43 = .ok (.getfield 112, 3) := by decide +kernel
theorem dX4_tired_46 : decode cX4_tired 46 = .ok (.istore_n 2, 1) := by decide +kernel
theorem dX4_tired_47 : decode cX4_tired 47 = .ok (.iload_n 3, 1) := by decide +kernel
theorem dX4_tired_48 : decode cX4_tired 48 = .ok (.istore_n 1, 1) := by decide +kernel
theorem dX4_tired_49 : decode cX4_tired 49 = .ok (.iinc 3 1, 3) := by decide +kernel
theorem dX4_tired_52 : decode cX4_tired 52 = .ok (.goto (-45), 3) := by decide +kernel
theorem dX4_tired_55 : decode cX4_tired 55 = .ok (.iload_n 1, 1) := by decide +kernel
theorem dX4_tired_56 : decode cX4_tired 56 = .ok (.ireturn, 1) := by decide +kernel
theorem dX4_truly_0 : decode cX4_truly 0 = .ok (.aload_n 0, 1) := by decide +kernel
theorem dX4_truly_1 : decode cX4_truly 1 = .ok (.getfield 12, 3) := by decide +kernel
theorem dX4_truly_4 : decode cX4_truly 4 = .ok (.iload_n 1, 1) := by decide +kernel
theorem dX4_truly_5 : decode cX4_truly 5 = .ok (.invokevirtual 85, 3) := by decide +kernel
theorem dX4_truly_8 : decode cX4_truly 8 = .ok (.ifCond .ne 9, 3) := by decide +kernel
theorem dX4_truly_11 : decode cX4_truly 11 = .ok (.aload_n 0, 1) := by decide +kernel
theorem dX4_truly_12 : decode cX4_truly 12 = .ok (.iconst (-1), 1) := by decide +kernel
theorem dX4_truly_13 : decode cX4_truly 13 = .ok (.invokevirtual 63, 3) := by decide +kernel
theorem dX4_truly_16 : decode cX4_truly 16 = .ok (.ireturn, 1) := by decide +kernel
theorem dX4_truly_17 : decode cX4_truly 17 = .ok (.aload_n 0, 1) := by decide +kernel
theorem dX4_truly_18 : decode cX4_truly 18 = .ok (.iload_n 1, 1) := by decide +kernel
theorem dX4_truly_19 : decode cX4_truly 19 = .ok (.invokevirtual 167, 3) := by decide +kernel
theorem dX4_truly_22 : decode cX4_truly 22 = .ok (.iconst 0, 1) := by decide +kernel
theorem dX4_truly_23 : decode cX4_truly 23 = .ok (.istore_n 2, 1) := by decide +kernel
theorem dX4_truly_24 : decode cX4_truly 24 = .ok (.iload_n 2, 1) := by decide +kernel
theorem dX4_truly_25 : decode cX4_truly 25 = .ok (.bipush 99, 2) := by decide +kernel
theorem dX4_truly_27 : decode cX4_truly 27 = .ok (.if_icmp .gt 28, 3) := by decide +kernel
theorem dX4_truly_30 : decode cX4_truly 30 = .ok (.aload_n 0, 1) := by decide +kernel
theorem dX4_truly_31 : decode cX4_truly 31 = .ok (.getfield 32, 3) := by decide +kernel
theorem dX4_truly_34 : decode cX4_truly 34 = .ok (.getfield 109, 3) := by decide +kernel
theorem dX4_truly_37 : decode cX4_truly 37 = .ok (.ifCond .ne 5, 3) := by decide +kernel
theorem dX4_truly_40 : decode cX4_truly 40 = .ok (.iload_n 2, 1) := by decide +kernel
theorem dX4_truly_41 : decode cX4_truly 41 = .ok (.ireturn, 1) := by decide +kernel
theorem dX4_truly_42 : decode cX4_truly 42 = .ok (.aload_n 0, 1) := by decide +kernel
theorem dX4_truly_43 : decode cX4_truly 43 = .ok (.getfield 32, 3) := by decide +kernel
theorem dX4_truly_46 : decode cX4_truly 46 = .ok (.invokevirtual 222, 3) := by decide +kernel
theorem dX4_truly_49 : decode cX4_truly 49 = .ok (.iinc 2 1, 3) := by decide +kernel
theorem dX4_truly_52 : decode cX4_truly 52 = .ok (.goto (-28), 3) := by decide +kernel
theorem dX4_truly_55 : decode cX4_truly 55 = .ok (.bipush (-9), 2) := by decide +kernel
theorem dX4_truly_57 : decode cX4_truly 57 = .ok (.ireturn, 1) := by decide +kernel
theorem dX4_total_0 : decode cX4_total 0 = .ok (.iload_n 1, 1) := by decide +kernel
theorem dX4_total_1 : decode cX4_total 1 = .ok (.iconst 0, 1) := by decide +kernel
theorem dX4_total_2 : decode cX4_total 2 = .ok (.bipush 60, 2) := by decide +kernel
theorem dX4_total_4 : decode cX4_total 4 = .ok (.invokestatic 163, 3) := by decide +kernel
theorem dX4_total_7 : decode cX4_total 7 = .ok (.istore_n 2, 1) := by decide +kernel
theorem dX4_total_8 : decode cX4_total 8 = .ok (.iload_n 2, 1) := by decide +kernel
theorem dX4_total_9 : decode cX4_total 9 = .ok (.ifCond .eq 9, 3) := by decide +kernel
theorem dX4_total_12 : decode cX4_total 12 = .ok (.aload_n 0, 1) := by decide +kernel
theorem dX4_total_13 : decode cX4_total 13 = .ok (.iload_n 2, 1) := by decide +kernel
theorem dX4_total_14 : decode cX4_total 14 = .ok (.invokevirtual 63, 3) := by decide +kernel
theorem dX4_total_17 : decode cX4_total 17 = .ok (.ireturn, 1) := by decide +kernel
theorem dX4_total_18 : decode cX4_total 18 = .ok (.aload_n 0, 1) := by decide +kernel
theorem dX4_total_19 : decode cX4_total 19 = .ok (.bipush (-9), 2) := by decide +kernel
theorem dX4_total_21 : decode cX4_total 21 = .ok (.iload_n 1, 1) := by decide +kernel
theorem dX4_total_22 : decode cX4_total 22 = .ok (.invokevirtual 225, 3) := by decide +kernel
theorem dX4_total_25 : decode cX4_total 25 = .ok (.ireturn, 1) := by decide +kernel
theorem dX4_bare_0 : decode cX4_bare 0 = .ok (.iload_n 1, 1) := by decide +kernel
theorem dX4_bare_1 : decode cX4_bare 1 = .ok (.iconst 0, 1) := by decide +kernel
theorem dX4_bare_2 : decode cX4_bare 2 = .ok (.bipush 30, 2) := by decide +kernel
theorem dX4_bare_4 : decode cX4_bare 4 = .ok (.invokestatic 163, 3) := by decide +kernel
theorem dX4_bare_7 : decode cX4_bare 7 = .ok (.istore_n 2, 1) := by decide +kernel
theorem dX4_bare_8 : decode cX4_bare 8 = .ok (.iload_n 2, 1) := by decide +kernel
theorem dX4_bare_9 : decode cX4_bare 9 = .ok (.ifCond .eq 9, 3) := by decide +kernel
theorem dX4_bare_12 : decode cX4_bare 12 = .ok (.aload_n 0, 1) := by decide +kernel
theorem dX4_bare_13 : decode cX4_bare 13 = .ok (.iload_n 2, 1) := by decide +kernel
theorem dX4_bare_14 : decode cX4_bare 14 = .ok (.invokevirtual 63, 3) := by decide +kernel
theorem dX4_bare_17 : decode cX4_bare 17 = .ok (.ireturn, 1) := by decide +kernel
theorem dX4_bare_18 : decode cX4_bare 18 = .ok (.bipush (-9), 2) := by decide +kernel
theorem dX4_bare_20 : decode cX4_bare 20 = .ok (.istore_n 3, 1) := by decide +kernel
theorem dX4_bare_21 : decode cX4_bare 21 = .ok (.aload_n 0, 1) := by decide +kernel
theorem dX4_bare_22 : decode cX4_bare 22 = .ok (.bipush (-9), 2) := by decide +kernel
theorem dX4_bare_24 : decode cX4_bare 24 = .ok (.iload_n 1, 1) := by decide +kernel
theorem dX4_bare_25 : decode cX4_bare 25 = .ok (.invokevirtual 225, 3) := by decide +kernel
theorem dX4_bare_28 : decode cX4_bare 28 = .ok (.istore 4, 2) := by decide +kernel
theorem dX4_bare_30 : decode cX4_bare 30 = .ok (.iconst 0, 1) := by decide +kernel
theorem dX4_bare_31 : decode cX4_bare 31 = .ok (.istore 5, 2) := by decide +kernel
theorem dX4_bare_33 : decode cX4_bare 33 = .ok (.iload 5, 2) := by decide +kernel
theorem dX4_bare_35 : decode cX4_bare 35 = .ok (.aload_n 0, 1) := by decide +kernel
theorem dX4_bare_36 : decode cX4_bare 36 = .ok (.getfield 12, 3) := by decide +kernel
theorem dX4_bare_39 : decode cX4_bare 39 = .ok (.getfield 181, 3) := by decide +kernel
theorem dX4_bare_42 : decode cX4_bare 42 = .ok (.if_icmp .ge 32, 3) := by decide +kernel
theorem dX4_bare_45 : decode cX4_bare 45 = .ok (.aload_n 0, 1) := by decide +kernel
theorem dX4_bare_46 : decode cX4_bare 46 = .ok (.iload 5, 2) := by decide +kernel
theorem dX4_bare_48 : decode cX4_bare 48 = .ok (.iload_n 1, 1) := by decide +kernel
theorem dX4_bare_49 : decode cX4_bare 49 = .ok (.invokevirtual 225, 3) := by decide +kernel
theorem dX4_bare_52 : decode cX4_bare 52 = .ok (.istore 6, 2) := by decide +kernel
theorem dX4_bare_54 : decode cX4_bare 54 = .ok (.iload 6, 2) := by decide +kernel
theorem dX4_bare_56 : decode cX4_bare 56 = .ok (.iload 4, 2) := by decide +kernel
theorem dX4_bare_58 : decode cX4_bare 58 = .ok (.if_icmp .ge 10, 3) := by decide +kernel
theorem dX4_bare_61 : decode cX4_bare 61 = .ok (.iload 6, 2) := by decide +kernel
theorem dX4_bare_63 : decode cX4_bare 63 = .ok (.istore 4, 2) := by decide +kernel
theorem dX4_bare_65 : decode cX4_bare 65 = .ok (.iload 5, 2) := by decide +kernel
theorem dX4_bare_67 : decode cX4_bare 67 = .ok (.istore_n 3, 1) := by decide +kernel
theorem dX4_bare_68 : decode cX4_bare 68 = .ok (.iinc 5 1, 3) := by decide +kernel
theorem dX4_bare_71 : decode cX4_bare 71 = .ok (.goto (-38), 3) := by decide +kernel
theorem dX4_bare_74 : decode cX4_bare 74 = .ok (.iload_n 3, 1) := by decide +kernel
theorem dX4_bare_75 : decode cX4_bare 75 = .ok (.ireturn, 1) := by decide +kernel
theorem dX4_two_0 : decode cX4_two 0 = .ok (.aload_n 0, 1) := by decide +kernel
theorem dX4_two_1 : decode cX4_two 1 = .ok (.getfield 12, 3) := by decide +kernel
theorem dX4_two_4 : decode cX4_two 4 = .ok (.iload_n 1, 1) := by decide +kernel
theorem dX4_two_5 : decode cX4_two 5 = .ok (.invokevirtual 85, 3) := by decide +kernel
theorem dX4_two_8 : decode cX4_two 8 = .ok (.ifCond .eq 19, 3) := by decide +kernel
theorem dX4_two_11 : decode cX4_two 11 = .ok (.aload_n 0, 1) := by decide +kernel
theorem dX4_two_12 : decode cX4_two 12 = .ok (.getfield 12, 3) := by decide +kernel
theorem dX4_two_15 : decode cX4_two 15 = .ok (.iload_n 2, 1) := by decide +kernel
theorem dX4_two_16 : decode cX4_two 16 = .ok (.invokevirtual 85, 3) := by decide +kernel
theorem dX4_two_19 : decode cX4_two 19 = .ok (.ifCond .eq 8, 3) := by decide +kernel
theorem dX4_two_22 : decode cX4_two 22 = .ok (.iload_n 1, 1) := by decide +kernel
theorem dX4_two_23 : decode cX4_two 23 = .ok (.iload_n 2, 1) := by decide +kernel
theorem dX4_two_24 : decode cX4_two 24 = .ok (.if_icmp .ne 9, 3) := by decide +kernel
theorem dX4_two_27 : decode cX4_two 27 = .ok (.aload_n 0, 1) := by decide +kernel
theorem dX4_two_28 : decode cX4_two 28 = .ok (.iconst (-1), 1) := by decide +kernel
theorem dX4_two_29 : decode cX4_two 29 = .ok (.invokevirtual 63, 3) := by decide +kernel
theorem dX4_two_32 : decode cX4_two 32 = .ok (.ireturn, 1) := by decide +kernel
theorem dX4_two_33 : decode cX4_two 33 = .ok (.iload_n 3, 1) := by decide +kernel
theorem dX4_two_34 : decode cX4_two 34 = .ok (.iconst 0, 1) := by decide +kernel
theorem dX4_two_35 : decode cX4_two 35 = .ok (.bipush 30, 2) := by decide +kernel
theorem dX4_two_37 : decode cX4_two 37 = .ok (.invokestatic 163, 3) := by decide +kernel
theorem dX4_two_40 : decode cX4_two 40 = .ok (.istore 4, 2) := by decide +kernel
theorem dX4_two_42 : decode cX4_two 42 = .ok (.iload 4, 2) := by decide +kernel
theorem dX4_two_44 : decode cX4_two 44 = .ok (.ifCond .eq 10, 3) := by decide +kernel
theorem dX4_two_47 : decode cX4_two 47 = .ok (.aload_n 0, 1) := by decide +kernel
theorem dX4_two_48 : decode cX4_two 48 = .ok (.iload 4, 2) := by decide +kernel
theorem dX4_two_50 : decode cX4_two 50 = .ok (.invokevirtual 63, 3) := by decide +kernel
theorem dX4_two_53 : decode cX4_two 53 = .ok (.ireturn, 1) := by decide +kernel
theorem dX4_two_54 : decode cX4_two 54 = .ok (.iconst 0, 1) := by decide +kernel
theorem dX4_two_55 : decode cX4_two 55 = .ok (.istore 5, 2) := by decide +kernel
theorem dX4_two_57 : decode cX4_two 57 = .ok (.iload 5, 2) := by decide +kernel
theorem dX4_two_59 : decode cX4_two 59 = .ok (.iconst 1, 1) := by decide +kernel
theorem dX4_two_60 : decode cX4_two 60 = .ok (.if_icmp .gt 99, 3) := by decide +kernel
theorem dX4_two_63 : decode cX4_two 63 = .ok (.iconst 0, 1) := by decide +kernel
theorem dX4_two_64 : decode cX4_two 64 = .ok (.istore 6, 2) := by decide +kernel
theorem dX4_two_66 : decode cX4_two 66 = .ok (.iload 6, 2) := by decide +kernel
theorem dX4_two_68 : decode cX4_two 68 = .ok (.iconst 1, 1) := by decide +kernel
theorem dX4_two_69 : decode cX4_two 69 = .ok (.if_icmp .gt 84, 3) := by decide +kernel
theorem dX4_two_72 : decode cX4_two 72 = .ok (.aload_n 0, 1) := by decide +kernel
theorem dX4_two_73 : decode cX4_two 73 = .ok (.iload_n 1, 1) := by decide +kernel
theorem dX4_two_74 : decode cX4_two 74 = .ok (.iload 5, 2) := by decide +kernel
theorem dX4_two_76 : decode cX4_two 76 = .ok (.iload_n 3, 1) := by decide +kernel
theorem dX4_two_77 : decode cX4_two 77 = .ok (.invokevirtual 228, 3) := by decide +kernel
theorem dX4_two_80 : decode cX4_two 80 = .ok (.aload_n 0, 1) := by decide +kernel
theorem dX4_two_81 : decode cX4_two 81 = .ok (.iload_n 1, 1) := by decide +kernel
theorem dX4_two_82 : decode cX4_two 82 = .ok (.iconst 1, 1) := by decide +kernel
theorem dX4_two_83 : decode cX4_two 83 = .ok (.iload 5, 2) := by decide +kernel
theorem dX4_two_85 : decode cX4_two 85 = .ok (.isub, 1) := by decide +kernel
theorem dX4_two_86 : decode cX4_two 86 = .ok (.iload_n 3, 1) := by decide +kernel
theorem dX4_two_87 : decode cX4_two 87 = .ok (.invokevirtual 228, 3) := by decide +kernel
theorem dX4_two_90 : decode cX4_two 90 = .ok (.if_icmp .gt 7, 3) := by decide +kernel
theorem dX4_two_93 : decode cX4_two 93 = .ok (.iconst 1, 1) := by decide +kernel
theorem dX4_two_94 : decode cX4_two 94 = .ok (.goto 4, 3) := by decide +kernel
theorem dX4_two_97 : decode cX4_two 97 = .ok (.iconst 0, 1) := by decide +kernel
theorem dX4_two_98 : decode cX4_two 98 = .ok (.istore 7, 2) := by decide +kernel
theorem dX4_two_100 : decode cX4_two 100 = .ok (.aload_n 0, 1) := by decide +kernel
theorem dX4_two_101 : decode cX4_two 101 = .ok (.iload_n 2, 1) := by decide +kernel
theorem dX4_two_102 : decode cX4_two 102 = .ok (.iload 6, 2) := by decide +kernel
theorem dX4_two_104 : decode cX4_two 104 = .ok (.iload_n 3, 1) := by decide +kernel
theorem dX4_two_105 : decode cX4_two 105 = .ok (.invokevirtual 228, 3) := by decide +kernel
theorem dX4_two_108 : decode cX4_two 108 = .ok (.aload_n 0, 1) := by decide +kernel
theorem dX4_two_109 : decode cX4_two 109 = .ok (.iload_n 2, 1) := by decide +kernel
theorem dX4_two_110 : decode cX4_two 110 = .ok (.iconst 1, 1) := by decide +kernel
theorem dX4_two_111 : decode cX4_two 111 = .ok (.iload 6, 2) := by decide +kernel
theorem dX4_two_113 : decode cX4_two 113 = .ok (.isub, 1) := by decide +kernel
theorem dX4_two_114 : decode cX4_two 114 = .ok (.iload_n 3, 1) := by decide +kernel
theorem dX4_two_115 : decode cX4_two 115 = .ok (.invokevirtual 228, 3) := by decide +kernel
theorem dX4_two_118 : decode cX4_two 118 = .ok (.if_icmp .gt 7, 3) := by decide +kernel
theorem dX4_two_121 : decode cX4_two 121 = .ok (.iconst 1, 1) := by decide +kernel
theorem dX4_two_122 : decode cX4_two 122 = .ok (.goto 4, 3) := by decide +kernel
theorem dX4_two_125 : decode cX4_two 125 = .ok (.iconst 0, 1) := by decide +kernel
theorem dX4_two_126 : decode cX4_two 126 = .ok (.istore 8, 2) := by decide +kernel
theorem dX4_two_128 : decode cX4_two 128 = .ok (.iload 7, 2) := by decide +kernel
theorem dX4_two_130 : decode cX4_two 130 = .ok (.ifCond .eq 17, 3) := by decide +kernel
theorem dX4_two_133 : decode cX4_two 133 = .ok (.iload 8, 2) := by decide +kernel
theorem dX4_two_135 : decode cX4_two 135 = .ok (.ifCond .eq 12, 3) := by decide +kernel
theorem dX4_two_138 : decode cX4_two 138 = .ok (.bipush 10, 2) := by decide +kernel
theorem dX4_two_140 : decode cX4_two 140 = .ok (.iload 5, 2) := by decide +kernel
theorem dX4_two_142 : decode cX4_two 142 = .ok (.imul, 1) := by decide +kernel
theorem dX4_two_143 : decode cX4_two 143 = .ok (.iload 6, 2) := by decide +kernel
theorem dX4_two_145 : decode cX4_two 145 = .ok (.iadd, 1) := by decide +kernel
theorem dX4_two_146 : decode cX4_two 146 = .ok (.ireturn, 1) := by decide +kernel
theorem dX4_two_147 : decode cX4_two 147 = .ok (.iinc 6 1, 3) := by decide +kernel
theorem dX4_two_150 : decode cX4_two 150 = .ok (.goto (-84), 3) := by decide +kernel
theorem dX4_two_153 : decode cX4_two 153 = .ok (.iinc 5 1, 3) := by decide +kernel
theorem dX4_two_156 : decode cX4_two 156 = .ok (.goto (-99), 3) := by decide +kernel
theorem dX4_two_159 : decode cX4_two 159 = .ok (.bipush (-9), 2) := by decide +kernel
theorem dX4_two_161 : decode cX4_two 161 = .ok (.ireturn, 1) := by decide +kernel
theorem dX4_mud_0 : decode cX4_mud 0 = .ok (.aload_n 0, 1) := by decide +kernel
theorem dX4_mud_1 : decode cX4_mud 1 = .ok (.getfield 12, 3) := by decide +kernel
theorem dX4_mud_4 : decode cX4_mud 4 = .ok (.iload_n 1, 1) := by decide +kernel
theorem dX4_mud_5 : decode cX4_mud 5 = .ok (.invokevirtual 85, 3) := by decide +kernel
theorem dX4_mud_8 : decode cX4_mud 8 = .ok (.ifCond .eq 10, 3) := by decide +kernel
theorem dX4_mud_11 : decode cX4_mud 11 = .ok (.iload_n 2, 1) := by decide +kernel
theorem dX4_mud_12 : decode cX4_mud 12 = .ok (.invokestatic 119, 3) := by decide +kernel
theorem dX4_mud_15 : decode cX4_mud 15 = .ok (.ifCond .ne 9, 3) := by decide +kernel
theorem dX4_mud_18 : decode cX4_mud 18 = .ok (.aload_n 0, 1) := by decide +kernel
theorem dX4_mud_19 : decode cX4_mud 19 = .ok (.iconst (-1), 1) := by decide +kernel
theorem dX4_mud_20 : decode cX4_mud 20 = .ok (.invokevirtual 231, 3) := by decide +kernel
theorem dX4_mud_23 : decode cX4_mud 23 = .ok (.lreturn, 1) := by decide +kernel
theorem dX4_mud_24 : decode cX4_mud 24 = .ok (.iload_n 3, 1) := by decide +kernel
theorem dX4_mud_25 : decode cX4_mud 25 = .ok (.ifCond .lt 9, 3) := by decide +kernel
theorem dX4_mud_28 : decode cX4_mud 28 = .ok (.iload 4, 2) := by decide +kernel
theorem dX4_mud_30 : decode cX4_mud 30 = .ok (.iconst 2, 1) := by decide +kernel
theorem dX4_mud_31 : decode cX4_mud 31 = .ok (.if_icmp .ge 10, 3) := by decide +kernel
theorem dX4_mud_34 : decode cX4_mud 34 = .ok (.aload_n 0, 1) := by decide +kernel
theorem dX4_mud_35 : decode cX4_mud 35 = .ok (.bipush (-4), 2) := by decide +kernel
theorem dX4_mud_37 : decode cX4_mud 37 = .ok (.invokevirtual 231, 3) := by decide +kernel
theorem dX4_mud_40 : decode cX4_mud 40 = .ok (.lreturn, 1) := by decide +kernel
theorem dX4_mud_41 : decode cX4_mud 41 = .ok (.iload_n 3, 1) := by decide +kernel
theorem dX4_mud_42 : decode cX4_mud 42 = .ok (.bipush 7, 2) := by decide +kernel
theorem dX4_mud_44 : decode cX4_mud 44 = .ok (.if_icmp .gt 10, 3) := by decide +kernel
theorem dX4_mud_47 : decode cX4_mud 47 = .ok (.iload 4, 2) := by decide +kernel
theorem dX4_mud_49 : decode cX4_mud 49 = .ok (.bipush 20, 2) := by decide +kernel
theorem dX4_mud_51 : decode cX4_mud 51 = .ok (.if_icmp .le 10, 3) := by decide +kernel
theorem dX4_mud_54 : decode cX4_mud 54 = .ok (.aload_n 0, 1) := by decide +kernel
theorem dX4_mud_55 : decode cX4_mud 55 = .ok (.bipush (-6), 2) := by decide +kernel
theorem dX4_mud_57 : decode cX4_mud 57 = .ok (.invokevirtual 231, 3) := by decide +kernel
theorem dX4_mud_60 : decode cX4_mud 60 = .ok (.lreturn, 1) := by decide +kernel
theorem dX4_mud_61 : decode cX4_mud 61 = .ok (.iload 5, 2) := by decide +kernel
theorem dX4_mud_63 : decode cX4_mud 63 = .ok (.iconst 2, 1) := by decide +kernel
theorem dX4_mud_64 : decode cX4_mud 64 = .ok (.invokestatic 149, 3) := by decide +kernel
theorem dX4_mud_67 : decode cX4_mud 67 = .ok (.ifCond .ne 10, 3) := by decide +kernel
theorem dX4_mud_70 : decode cX4_mud 70 = .ok (.aload_n 0, 1) := by decide +kernel
theorem dX4_mud_71 : decode cX4_mud 71 = .ok (.bipush (-2), 2) := by decide +kernel
theorem dX4_mud_73 : decode cX4_mud 73 = .ok (.invokevirtual 231, 3) := by decide +kernel
theorem dX4_mud_76 : decode cX4_mud 76 = .ok (.lreturn, 1) := by decide +kernel
theorem dX4_mud_77 : decode cX4_mud 77 = .ok (.lconst 1, 1) := by decide +kernel
theorem dX4_mud_78 : decode cX4_mud 78 = .ok (.lstore 6, 2) := by decide +kernel
theorem dX4_mud_80 : decode cX4_mud 80 = .ok (.aload_n 0, 1) := by decide +kernel
theorem dX4_mud_81 : decode cX4_mud 81 = .ok (.iload_n 1, 1) := by decide +kernel
theorem dX4_mud_82 : decode cX4_mud 82 = .ok (.invokevirtual 235, 3) := by decide +kernel
theorem dX4_mud_85 : decode cX4_mud 85 = .ok (.iconst 0, 1) := by decide +kernel
theorem dX4_mud_86 : decode cX4_mud 86 = .ok (.istore 8, 2) := by decide +kernel
theorem dX4_mud_88 : decode cX4_mud 88 = .ok (.iload 8, 2) := by decide +kernel
theorem dX4_mud_90 : decode cX4_mud 90 = .ok (.iload_n 3, 1) := by decide +kernel
theorem dX4_mud_91 : decode cX4_mud 91 = .ok (.if_icmp .ge 30, 3) := by decide +kernel
theorem dX4_mud_94 : decode cX4_mud 94 = .ok (.aload_n 0, 1) := by decide +kernel
theorem dX4_mud_95 : decode cX4_mud 95 = .ok (.getfield 32, 3) := by decide +kernel
theorem dX4_mud_98 : decode cX4_mud 98 = .ok (.invokevirtual 222, 3) := by decide +kernel
theorem dX4_mud_101 : decode cX4_mud 101 = .ok (.aload_n 0, 1) := by decide +kernel
theorem dX4_mud_102 : decode cX4_mud 102 = .ok (.iload 4, 2) := by decide +kernel
theorem dX4_mud_104 : decode cX4_mud 104 = .ok (.invokevirtual 238, 3) := by decide +kernel
theorem dX4_mud_107 : decode cX4_mud 107 = .ok (.lload 6, 2) := by decide +kernel
theorem dX4_mud_109 : decode cX4_mud 109 = .ok (.iload 4, 2) := by decide +kernel
theorem dX4_mud_111 : decode cX4_mud 111 = .ok (.i2l, 1) := by decide +kernel
theorem dX4_mud_112 : decode cX4_mud 112 = .ok (.lmul, 1) := by decide +kernel
theorem dX4_mud_113 : decode cX4_mud 113 = .ok (.lstore 6, 2) := by decide +kernel
theorem dX4_mud_115 : decode cX4_mud 115 = .ok (.iinc 8 1, 3) := by decide +kernel
theorem dX4_mud_118 : decode cX4_mud 118 = .ok (.goto (-30), 3) := by decide +kernel
theorem dX4_mud_121 : decode cX4_mud 121 = .ok (.aload_n 0, 1) := by decide +kernel
theorem dX4_mud_122 : decode cX4_mud 122 = .ok (.getfield 56, 3) := by decide +kernel
theorem dX4_mud_125 : decode cX4_mud 125 = .ok (.iload_n 2, 1) := by decide +kernel
theorem dX4_mud_126 : decode cX4_mud 126 = .ok (.laload, 1) := by decide +kernel
theorem dX4_mud_127 : decode cX4_mud 127 = .ok (.lload 6, 2) := by decide +kernel
theorem dX4_mud_129 : decode cX4_mud 129 = .ok (.iload 5, 2) := by decide +kernel
theorem dX4_mud_131 : decode cX4_mud 131 = .ok (.invokestatic 241, 3) := by decide +kernel
theorem dX4_mud_134 : decode cX4_mud 134 = .ok (.lreturn, 1) := by decide +kernel
theorem dX4_mean_0 : decode cX4_mean 0 = .ok (.iload_n 1, 1) := by decide +kernel
theorem dX4_mean_1 : decode cX4_mean 1 = .ok (.iconst 2, 1) := by decide +kernel
theorem dX4_mean_2 : decode cX4_mean 2 = .ok (.invokestatic 149, 3) := by decide +kernel
theorem dX4_mean_5 : decode cX4_mean 5 = .ok (.ifCond .ne 10, 3) := by decide +kernel
theorem dX4_mean_8 : decode cX4_mean 8 = .ok (.aload_n 0, 1) := by decide +kernel
theorem dX4_mean_9 : decode cX4_mean 9 = .ok (.bipush (-2), 2) := by decide +kernel
theorem dX4_mean_11 : decode cX4_mean 11 = .ok (.invokevirtual 231, 3) := by decide +kernel
theorem dX4_mean_14 : decode cX4_mean 14 = .ok (.lreturn, 1) := by decide +kernel
theorem dX4_mean_15 : decode cX4_mean 15 = .ok (.aload_n 0, 1) := by decide +kernel
theorem dX4_mean_16 : decode cX4_mean 16 = .ok (.getfield 12, 3) := by decide +kernel
theorem dX4_mean_19 : decode cX4_mean 19 = .ok (.invokevirtual 245, 3) := by decide +kernel
theorem dX4_mean_22 : decode cX4_mean 22 = .ok (.i2l, 1) := by decide +kernel
theorem dX4_mean_23 : decode cX4_mean 23 = .ok (.aload_n 0, 1) := by decide +kernel
theorem dX4_mean_24 : decode cX4_mean 24 = .ok (.getfield 12, 3) := by decide +kernel
theorem dX4_mean_27 : decode cX4_mean 27 = .ok (.getfield 181, 3) := by decide +kernel
theorem dX4_mean_30 : decode cX4_mean 30 = .ok (.i2l, 1) := by decide +kernel
theorem dX4_mean_31 : decode cX4_mean 31 = .ok (.iload_n 1, 1) := by decide +kernel
theorem dX4_mean_32 : decode cX4_mean 32 = .ok (.invokestatic 241, 3) := by decide +kernel
theorem dX4_mean_35 : decode cX4_mean 35 = .ok (.lreturn, 1) := by decide +kernel
theorem dX4_whatWanted_0 : decode cX4_whatWanted 0 = .ok (.aload_n 0, 1) := by decide +kernel
theorem dX4_whatWanted_1 : decode cX4_whatWanted 1 = .ok (.getfield 12, 3) := by decide +kernel
theorem dX4_whatWanted_4 : decode cX4_whatWanted 4 = .ok (.iload_n 1, 1) := by decide +kernel
theorem dX4_whatWanted_5 : decode cX4_whatWanted 5 = .ok (.invokevirtual 85, 3) := by decide +kernel
theorem dX4_whatWanted_8 : decode cX4_whatWanted 8 = .ok (.ifCond .ne 9, 3) := by decide +kernel
theorem dX4_whatWanted_11 : decode cX4_whatWanted 11 = .ok (.aload_n 0, 1) := by decide +kernel
theorem dX4_whatWanted_12 : decode cX4_whatWanted 12 = .ok (.iconst (-1), 1) := by decide +kernel
theorem dX4_whatWanted_13 : decode cX4_whatWanted 13 = .ok (.invokevirtual 63, 3) := by decide +kernel
theorem dX4_whatWanted_16 : decode cX4_whatWanted 16 = .ok (.ireturn, 1) := by decide +kernel
theorem dX4_whatWanted_17 : decode cX4_whatWanted 17 = .ok (.iload_n 2, 1) := by decide +kernel
theorem dX4_whatWanted_18 : decode cX4_whatWanted 18 = .ok (.iconst 2, 1) := by decide +kernel
theorem dX4_whatWanted_19 : decode cX4_whatWanted 19 = .ok (.invokestatic 149, 3) := by decide +kernel
theorem dX4_whatWanted_22 : decode cX4_whatWanted 22 = .ok (.ifCond .ne 10, 3) := by decide +kernel
theorem dX4_whatWanted_25 : decode cX4_whatWanted 25 = .ok (.aload_n 0, 1) := by decide +kernel
theorem dX4_whatWanted_26 : decode cX4_whatWanted 26 = .ok (.bipush (-2), 2) := by decide +kernel
theorem dX4_whatWanted_28 : decode cX4_whatWanted 28 = .ok (.invokevirtual 63, 3) := by decide +kernel
theorem dX4_whatWanted_31 : decode cX4_whatWanted 31 = .ok (.ireturn, 1) := by decide +kernel
theorem dX4_whatWanted_32 : decode cX4_whatWanted 32 = .ok (.iload_n 2, 1) := by decide +kernel
theorem dX4_whatWanted_33 : decode cX4_whatWanted 33 = .ok (.ifCond .ne 8, 3) := by decide +kernel
theorem dX4_whatWanted_36 : decode cX4_whatWanted 36 = .ok (.bipush 8, 2) := by decide +kernel
theorem dX4_whatWanted_38 : decode cX4_whatWanted 38 = .ok (.goto 5, 3) := by decide +kernel
theorem dX4_whatWanted_41 : decode cX4_whatWanted 41 = .ok (.bipush 6, 2) := by decide +kernel
theorem dX4_whatWanted_43 : decode cX4_whatWanted 43 = .ok (.istore_n 3, 1) := by decide +kernel
theorem dX4_whatWanted_44 : decode cX4_whatWanted 44 = .ok (.iconst 0, 1) := by decide +kernel
theorem dX4_whatWanted_45 : decode cX4_whatWanted 45 = .ok (.istore 4, 2) := by decide +kernel
theorem dX4_whatWanted_47 : decode cX4_whatWanted 47 = .ok (.iconst 0, 1) := by decide +kernel
theorem dX4_whatWanted_48 : decode cX4_whatWanted 48 = .ok (.istore 5, 2) := by decide +kernel
theorem dX4_whatWanted_50 : decode cX4_whatWanted 50 = .ok (.iload 5, 2) := by decide +kernel
theorem dX4_whatWanted_52 : decode cX4_whatWanted 52 = .ok (.iload_n 3, 1) := by decide +kernel
theorem dX4_whatWanted_53 : decode cX4_whatWanted 53 = .ok (.if_icmp .ge 55, 3) := by decide +kernel
theorem dX4_whatWanted_56 : decode cX4_whatWanted 56 = .ok (.aload_n 0, 1) := by decide +kernel
theorem dX4_whatWanted_57 : decode cX4_whatWanted 57 = .ok (.iload_n 1, 1) := by decide +kernel
theorem dX4_whatWanted_58 : decode cX4_whatWanted 58 = .ok (.invokevirtual 167, 3) := by decide +kernel
theorem dX4_whatWanted_61 : decode cX4_whatWanted 61 = .ok (.iload_n 2, 1) := by decide +kernel
theorem dX4_whatWanted_62 : decode cX4_whatWanted 62 = .ok (.ifCond .ne 15, 3) := by decide +kernel
theorem dX4_whatWanted_65 : decode cX4_whatWanted 65 = .ok (.aload_n 0, 1) := by decide +kernel
theorem dX4_whatWanted_66 : decode cX4_whatWanted 66 = .ok (.getfield 32, 3) := by decide +kernel
theorem dX4_whatWanted_69 : decode cX4_whatWanted 69 = .ok (.iload 5, 2) := by decide +kernel
theorem dX4_whatWanted_71 : decode cX4_whatWanted 71 = .ok (.putfield 100, 3) := by decide +kernel
theorem dX4_whatWanted_74 : decode cX4_whatWanted 74 = .ok (.goto 12, 3) := by decide +kernel
theorem dX4_whatWanted_77 : decode cX4_whatWanted 77 = .ok (.aload_n 0, 1) := by decide +kernel
theorem dX4_whatWanted_78 : decode cX4_whatWanted 78 = .ok (.getfield 32, 3) := by decide +kernel
theorem dX4_whatWanted_81 : decode cX4_whatWanted 81 = .ok (.iload 5, 2) := by decide +kernel
theorem dX4_whatWanted_83 : decode cX4_whatWanted 83 = .ok (.putfield 93, 3) := by decide +kernel
theorem dX4_whatWanted_86 : decode cX4_whatWanted 86 = .ok (.aload_n 0, 1) := by decide +kernel
theorem dX4_whatWanted_87 : decode cX4_whatWanted 87 = .ok (.invokevirtual 248, 3) := by decide +kernel
theorem dX4_whatWanted_90 : decode cX4_whatWanted 90 = .ok (.ifCond .eq 12, 3) := by decide +kernel
theorem dX4_whatWanted_93 : decode cX4_whatWanted 93 = .ok (.iload 4, 2) := by decide +kernel
theorem dX4_whatWanted_95 : decode cX4_whatWanted 95 = .ok (.iconst 1, 1) := by decide +kernel
theorem dX4_whatWanted_96 : decode cX4_whatWanted 96 = .ok (.iload 5, 2) := by decide +kernel
theorem dX4_whatWanted_98 : decode cX4_whatWanted 98 = .ok (.ishl, 1) := by decide +kernel
theorem dX4_whatWanted_99 : decode cX4_whatWanted 99 = .ok (.ior, 1) := by decide +kernel
theorem dX4_whatWanted_100 : decode cX4_whatWanted 100 = .ok (.istore 4, 2) := by decide +kernel
theorem dX4_whatWanted_102 : decode cX4_whatWanted 102 = .ok (.iinc 5 1, 3) := by decide +kernel
theorem dX4_whatWanted_105 : decode cX4_whatWanted 105 = .ok (.goto (-55), 3) := by decide +kernel
theorem dX4_whatWanted_108 : decode cX4_whatWanted 108 = .ok (.iload 4, 2) := by decide +kernel
theorem dX4_whatWanted_110 : decode cX4_whatWanted 110 = .ok (.ireturn, 1) := by decide +kernel
theorem dX4_row_0 : decode cX4_row 0 = .ok (.iload_n 1, 1) := by decide +kernel
theorem dX4_row_1 : decode cX4_row 1 = .ok (.ifCond .ge 10, 3) := by decide +kernel
theorem dX4_row_4 : decode cX4_row 4 = .ok (.aload_n 0, 1) := by decide +kernel
theorem dX4_row_5 : decode cX4_row 5 = .ok (.bipush (-4), 2) := by decide +kernel
theorem dX4_row_7 : decode cX4_row 7 = .ok (.invokevirtual 63, 3) := by decide +kernel
theorem dX4_row_10 : decode cX4_row 10 = .ok (.ireturn, 1) := by decide +kernel
theorem dX4_row_11 : decode cX4_row 11 = .ok (.iload_n 1, 1) := by decide +kernel
theorem dX4_row_12 : decode cX4_row 12 = .ok (.bipush 99, 2) := by decide +kernel
theorem dX4_row_14 : decode cX4_row 14 = .ok (.if_icmp .gt 12, 3) := by decide +kernel
theorem dX4_row_17 : decode cX4_row 17 = .ok (.aload_n 0, 1) := by decide +kernel
theorem dX4_row_18 : decode cX4_row 18 = .ok (.getfield 251, 3) := by decide +kernel
theorem dX4_row_21 : decode cX4_row 21 = .ok (.bipush 16, 2) := by decide +kernel
theorem dX4_row_23 : decode cX4_row 23 = .ok (.if_icmp .lt 10, 3) := by decide +kernel
theorem dX4_row_26 : decode cX4_row 26 = .ok (.aload_n 0, 1) := by decide +kernel
theorem dX4_row_27 : decode cX4_row 27 = .ok (.bipush (-6), 2) := by decide +kernel
theorem dX4_row_29 : decode cX4_row 29 = .ok (.invokevirtual 63, 3) := by decide +kernel
theorem dX4_row_32 : decode cX4_row 32 = .ok (.ireturn, 1) := by decide +kernel
theorem dX4_row_33 : decode cX4_row 33 = .ok (.aload_n 0, 1) := by decide +kernel
theorem dX4_row_34 : decode cX4_row 34 = .ok (.getfield 46, 3) := by decide +kernel
theorem dX4_row_37 : decode cX4_row 37 = .ok (.aload_n 0, 1) := by decide +kernel
theorem dX4_row_38 : decode cX4_row 38 = .ok (.getfield 251, 3) := by decide +kernel
theorem dX4_row_41 : decode cX4_row 41 = .ok (.iload_n 1, 1) := by decide +kernel
theorem dX4_row_42 : decode cX4_row 42 = .ok (.iastore, 1) := by decide +kernel
theorem dX4_row_43 : decode cX4_row 43 = .ok (.aload_n 0, 1) := by decide +kernel
theorem dX4_row_44 : decode cX4_row 44 = .ok (.dup, 1) := by decide +kernel
theorem dX4_row_45 : decode cX4_row 45 = .ok (.getfield 251, 3) := by decide +kernel
theorem dX4_row_48 : decode cX4_row 48 = .ok (.iconst 1, 1) := by decide +kernel
theorem dX4_row_49 : decode cX4_row 49 = .ok (.iadd, 1) := by decide +kernel
theorem dX4_row_50 : decode cX4_row 50 = .ok (.putfield 251, 3) := by decide +kernel
theorem dX4_row_53 : decode cX4_row 53 = .ok (.aload_n 0, 1) := by decide +kernel
theorem dX4_row_54 : decode cX4_row 54 = .ok (.getfield 251, 3) := by decide +kernel
theorem dX4_row_57 : decode cX4_row 57 = .ok (.ireturn, 1) := by decide +kernel
theorem dX4_judge_0 : decode cX4_judge 0 = .ok (.aload_n 0, 1) := by decide +kernel
theorem dX4_judge_1 : decode cX4_judge 1 = .ok (.invokevirtual 254, 3) := by decide +kernel
theorem dX4_judge_4 : decode cX4_judge 4 = .ok (.istore_n 1, 1) := by decide +kernel
theorem dX4_judge_5 : decode cX4_judge 5 = .ok (.aload_n 0, 1) := by decide +kernel
theorem dX4_judge_6 : decode cX4_judge 6 = .ok (.iconst 0, 1) := by decide +kernel
theorem dX4_judge_7 : decode cX4_judge 7 = .ok (.putfield 251, 3) := by decide +kernel
theorem dX4_judge_10 : decode cX4_judge 10 = .ok (.iload_n 1, 1) := by decide +kernel
theorem dX4_judge_11 : decode cX4_judge 11 = .ok (.ireturn, 1) := by decide +kernel
theorem dX4_clear_0 : decode cX4_clear 0 = .ok (.aload_n 0, 1) := by decide +kernel
theorem dX4_clear_1 : decode cX4_clear 1 = .ok (.getfield 251, 3) := by decide +kernel
theorem dX4_clear_4 : decode cX4_clear 4 = .ok (.istore_n 1, 1) := by decide +kernel
theorem dX4_clear_5 : decode cX4_clear 5 = .ok (.aload_n 0, 1) := by decide +kernel
theorem dX4_clear_6 : decode cX4_clear 6 = .ok (.iconst 0, 1) := by decide +kernel
theorem dX4_clear_7 : decode cX4_clear 7 = .ok (.putfield 251, 3) := by decide +kernel
theorem dX4_clear_10 : decode cX4_clear 10 = .ok (.iload_n 1, 1) := by decide +kernel
theorem dX4_clear_11 : decode cX4_clear 11 = .ok (.ireturn, 1) := by decide +kernel
theorem dX4_lots_0 : decode cX4_lots 0 = .ok (.iload_n 1, 1) := by decide +kernel
theorem dX4_lots_1 : decode cX4_lots 1 = .ok (.iconst 1, 1) := by decide +kernel
theorem dX4_lots_2 : decode cX4_lots 2 = .ok (.bipush 20, 2) := by decide +kernel
theorem dX4_lots_4 : decode cX4_lots 4 = .ok (.invokestatic 163, 3) := by decide +kernel
theorem dX4_lots_7 : decode cX4_lots 7 = .ok (.istore 4, 2) := by decide +kernel
theorem dX4_lots_9 : decode cX4_lots 9 = .ok (.iload 4, 2) := by decide +kernel
theorem dX4_lots_11 : decode cX4_lots 11 = .ok (.ifCond .eq 10, 3) := by decide +kernel
theorem dX4_lots_14 : decode cX4_lots 14 = .ok (.aload_n 0, 1) := by decide +kernel
theorem dX4_lots_15 : decode cX4_lots 15 = .ok (.iload 4, 2) := by decide +kernel
theorem dX4_lots_17 : decode cX4_lots 17 = .ok (.invokevirtual 63, 3) := by decide +kernel
theorem dX4_lots_20 : decode cX4_lots 20 = .ok (.ireturn, 1) := by decide +kernel
theorem dX4_lots_21 : decode cX4_lots 21 = .ok (.iload_n 3, 1) := by decide +kernel
theorem dX4_lots_22 : decode cX4_lots 22 = .ok (.iconst 2, 1) := by decide +kernel
theorem dX4_lots_23 : decode cX4_lots 23 = .ok (.invokestatic 149, 3) := by decide +kernel
theorem dX4_lots_26 : decode cX4_lots 26 = .ok (.ifCond .ne 10, 3) := by decide +kernel
theorem dX4_lots_29 : decode cX4_lots 29 = .ok (.aload_n 0, 1) := by decide +kernel
theorem dX4_lots_30 : decode cX4_lots 30 = .ok (.bipush (-2), 2) := by decide +kernel
theorem dX4_lots_32 : decode cX4_lots 32 = .ok (.invokevirtual 63, 3) := by decide +kernel
theorem dX4_lots_35 : decode cX4_lots 35 = .ok (.ireturn, 1) := by decide +kernel
theorem dX4_lots_36 : decode cX4_lots 36 = .ok (.iload_n 2, 1) := by decide +kernel
theorem dX4_lots_37 : decode cX4_lots 37 = .ok (.istore 5, 2) := by decide +kernel
theorem dX4_lots_39 : decode cX4_lots 39 = .ok (.iconst 0, 1) := by decide +kernel
theorem dX4_lots_40 : decode cX4_lots 40 = .ok (.istore 6, 2) := by decide +kernel
theorem dX4_lots_42 : decode cX4_lots 42 = .ok (.iconst 0, 1) := by decide +kernel
theorem dX4_lots_43 : decode cX4_lots 43 = .ok (.istore 7, 2) := by decide +kernel
theorem dX4_lots_45 : decode cX4_lots 45 = .ok (.iload 7, 2) := by decide +kernel
theorem dX4_lots_47 : decode cX4_lots 47 = .ok (.iload_n 1, 1) := by decide +kernel
theorem dX4_lots_48 : decode cX4_lots 48 = .ok (.if_icmp .ge 132, 3) := by decide +kernel
theorem dX4_lots_51 : decode cX4_lots 51 = .ok (.iconst 0, 1) := by decide +kernel
theorem dX4_lots_52 : decode cX4_lots 52 = .ok (.istore 8, 2) := by decide +kernel
theorem dX4_lots_54 : decode cX4_lots 54 = .ok (.iload 8, 2) := by decide +kernel
theorem dX4_lots_56 : decode cX4_lots 56 = .ok (.aload_n 0, 1) := by decide +kernel
theorem dX4_lots_57 : decode cX4_lots 57 = .ok (.getfield 12, 3) := by decide +kernel
theorem dX4_lots_60 : decode cX4_lots 60 = .ok (.getfield 181, 3) := by decide +kernel
theorem dX4_lots_63 : decode cX4_lots 63 = .ok (.if_icmp .ge 111, 3) := by decide +kernel
theorem dX4_lots_66 : decode cX4_lots 66 = .ok (.aload_n 0, 1) := by decide +kernel
theorem dX4_lots_67 : decode cX4_lots 67 = .ok (.iload 8, 2) := by decide +kernel
theorem dX4_lots_69 : decode cX4_lots 69 = .ok (.invokevirtual 167, 3) := by decide +kernel
theorem dX4_lots_72 : decode cX4_lots 72 = .ok (.iload 5, 2) := by decide +kernel
theorem dX4_lots_74 : decode cX4_lots 74 = .ok (.invokestatic 257, 3) := by decide +kernel
theorem dX4_lots_77 : decode cX4_lots 77 = .ok (.istore 5, 2) := by decide +kernel
theorem dX4_lots_79 : decode cX4_lots 79 = .ok (.aload_n 0, 1) := by decide +kernel
theorem dX4_lots_80 : decode cX4_lots 80 = .ok (.getfield 32, 3) := by decide +kernel
theorem dX4_lots_83 : decode cX4_lots 83 = .ok (.iload 5, 2) := by decide +kernel
theorem dX4_lots_85 : decode cX4_lots 85 = .ok (.bipush 8, 2) := by decide +kernel
theorem dX4_lots_87 : decode cX4_lots 87 = .ok (.invokestatic 260, 3) := by decide +kernel
theorem dX4_lots_90 : decode cX4_lots 90 = .ok (.putfield 106, 3) := by decide +kernel
theorem dX4_lots_93 : decode cX4_lots 93 = .ok (.iload 5, 2) := by decide +kernel
theorem dX4_lots_95 : decode cX4_lots 95 = .ok (.invokestatic 257, 3) := by decide +kernel
theorem dX4_lots_98 : decode cX4_lots 98 = .ok (.istore 5, 2) := by decide +kernel
theorem dX4_lots_100 : decode cX4_lots 100 = .ok (.aload_n 0, 1) := by decide +kernel
theorem dX4_lots_101 : decode cX4_lots 101 = .ok (.getfield 32, 3) := by decide +kernel
theorem dX4_lots_104 : decode cX4_lots 104 = .ok (.iload 5, 2) := by decide +kernel
theorem dX4_lots_106 : decode cX4_lots 106 = .ok (.iconst 5, 1) := by decide +kernel
theorem dX4_lots_107 : decode cX4_lots 107 = .ok (.invokestatic 260, 3) := by decide +kernel
theorem dX4_lots_110 : decode cX4_lots 110 = .ok (.putfield 109, 3) := by decide +kernel
theorem dX4_lots_113 : decode cX4_lots 113 = .ok (.aload_n 0, 1) := by decide +kernel
theorem dX4_lots_114 : decode cX4_lots 114 = .ok (.getfield 32, 3) := by decide +kernel
theorem dX4_lots_117 : decode cX4_lots 117 = .ok (.aload_n 0, 1) := by decide +kernel
theorem dX4_lots_118 : decode cX4_lots 118 = .ok (.getfield 12, 3) := by decide +kernel
theorem dX4_lots_121 : decode cX4_lots 121 = .ok (.getfield 122, 3) := by decide +kernel
theorem dX4_lots_124 : decode cX4_lots 124 = .ok (.bipush 10, 2) := by decide +kernel
theorem dX4_lots_126 : decode cX4_lots 126 = .ok (.invokevirtual 171, 3) := by decide +kernel
theorem dX4_lots_129 : decode cX4_lots 129 = .ok (.iload_n 3, 1) := by decide +kernel
theorem dX4_lots_130 : decode cX4_lots 130 = .ok (.ifCond .ne 25, 3) := by decide +kernel
theorem dX4_lots_133 : decode cX4_lots 133 = .ok (.iload 6, 2) := by decide +kernel
theorem dX4_lots_135 : decode cX4_lots 135 = .ok (.aload_n 0, 1) := by decide +kernel
theorem dX4_lots_136 : decode cX4_lots 136 = .ok (.getfield 32, 3) := by decide +kernel
theorem dX4_lots_139 : decode cX4_lots 139 = .ok (.aload_n 0, 1) := by decide +kernel
theorem dX4_lots_140 : decode cX4_lots 140 = .ok (.getfield 12, 3) := by decide +kernel
theorem dX4_lots_143 : decode cX4_lots 143 = .ok (.getfield 122, 3) := by decide +kernel
theorem dX4_lots_146 : decode cX4_lots 146 = .ok (.invokevirtual 263, 3) := by decide +kernel
theorem dX4_lots_149 : decode cX4_lots 149 = .ok (.iadd, 1) := by decide +kernel
theorem dX4_lots_150 : decode cX4_lots 150 = .ok (.istore 6, 2) := by decide +kernel
theorem dX4_lots_152 : decode cX4_lots 152 = .ok (.goto 16, 3) := by decide +kernel
theorem dX4_lots_155 : decode cX4_lots 155 = .ok (.aload_n 0, 1) := by decide +kernel
theorem dX4_lots_156 : decode cX4_lots 156 = .ok (.getfield 32, 3) := by decide +kernel
theorem dX4_lots_159 : decode cX4_lots 159 = .ok (.invokevirtual 267, 3) := by decide +kernel
theorem dX4_lots_162 : decode cX4_lots 162 = .ok (.ifCond .eq 6, 3) := by decide +kernel
theorem dX4_lots_165 : decode cX4_lots 165 = .ok (.iinc 6 1, 3) := by decide +kernel
theorem dX4_lots_168 : decode cX4_lots 168 = .ok (.iinc 8 1, 3) := by decide +kernel
theorem dX4_lots_171 : decode cX4_lots 171 = .ok (.goto (-117), 3) := by decide +kernel
theorem dX4_lots_174 : decode cX4_lots 174 = .ok (.iinc 7 1, 3) := by decide +kernel
theorem dX4_lots_177 : decode cX4_lots 177 = .ok (.goto (-132), 3) := by decide +kernel
theorem dX4_lots_180 : decode cX4_lots 180 = .ok (.iload 6, 2) := by decide +kernel
theorem dX4_lots_182 : decode cX4_lots 182 = .ok (.ireturn, 1) := by decide +kernel
theorem dX4_image_0 : decode cX4_image 0 = .ok (.aload_n 0, 1) := by decide +kernel
theorem dX4_image_1 : decode cX4_image 1 = .ok (.getfield 16, 3) := by decide +kernel
theorem dX4_image_4 : decode cX4_image 4 = .ok (.aload_n 0, 1) := by decide +kernel
theorem dX4_image_5 : decode cX4_image 5 = .ok (.getfield 12, 3) := by decide +kernel
theorem dX4_image_8 : decode cX4_image 8 = .ok (.invokevirtual 74, 3) := by decide +kernel
theorem dX4_image_11 : decode cX4_image 11 = .ok (.aload_n 0, 1) := by decide +kernel
theorem dX4_image_12 : decode cX4_image 12 = .ok (.iconst 1, 1) := by decide +kernel
theorem dX4_image_13 : decode cX4_image 13 = .ok (.putfield 270, 3) := by decide +kernel
theorem dX4_image_16 : decode cX4_image 16 = .ok (.aload_n 0, 1) := by decide +kernel
theorem dX4_image_17 : decode cX4_image 17 = .ok (.getfield 12, 3) := by decide +kernel
theorem dX4_image_20 : decode cX4_image 20 = .ok (.getfield 274, 3) := by decide +kernel
theorem dX4_image_23 : decode cX4_image 23 = .ok (.ireturn, 1) := by decide +kernel
theorem dX4_on_0 : decode cX4_on 0 = .ok (.aload_n 0, 1) := by decide +kernel
theorem dX4_on_1 : decode cX4_on 1 = .ok (.getfield 270, 3) := by decide +kernel
theorem dX4_on_4 : decode cX4_on 4 = .ok (.ifCond .ne 10, 3) := by decide +kernel
theorem dX4_on_7 : decode cX4_on 7 = .ok (.aload_n 0, 1) := by decide +kernel
theorem dX4_on_8 : decode cX4_on 8 = .ok (.bipush (-3), 2) := by decide +kernel
theorem dX4_on_10 : decode cX4_on 10 = .ok (.invokevirtual 63, 3) := by decide +kernel
theorem dX4_on_13 : decode cX4_on 13 = .ok (.ireturn, 1) := by decide +kernel
theorem dX4_on_14 : decode cX4_on 14 = .ok (.aload_n 0, 1) := by decide +kernel
theorem dX4_on_15 : decode cX4_on 15 = .ok (.getfield 12, 3) := by decide +kernel
theorem dX4_on_18 : decode cX4_on 18 = .ok (.aload_n 0, 1) := by decide +kernel
theorem dX4_on_19 : decode cX4_on 19 = .ok (.getfield 16, 3) := by decide +kernel
theorem dX4_on_22 : decode cX4_on 22 = .ok (.invokevirtual 74, 3) := by decide +kernel
theorem dX4_on_25 : decode cX4_on 25 = .ok (.aload_n 0, 1) := by decide +kernel
theorem dX4_on_26 : decode cX4_on 26 = .ok (.getfield 12, 3) := by decide +kernel
theorem dX4_on_29 : decode cX4_on 29 = .ok (.getfield 274, 3) := by decide +kernel
theorem dX4_on_32 : decode cX4_on 32 = .ok (.ireturn, 1) := by decide +kernel
theorem dX4_count_0 : decode cX4_count 0 = .ok (.iload_n 1, 1) := by decide +kernel
theorem dX4_count_1 : decode cX4_count 1 = .ok (.tableswitch 111 0 7 #[47, 55, 63, 74, 82, 90, 98, 103], 47) := by decide +kernel
theorem dX4_count_48 : decode cX4_count 48 = .ok (.aload_n 0, 1) := by decide +kernel
theorem dX4_count_49 : decode cX4_count 49 = .ok (.getfield 12, 3) := by decide +kernel
theorem dX4_count_52 : decode cX4_count 52 = .ok (.getfield 181, 3) := by decide +kernel
theorem dX4_count_55 : decode cX4_count 55 = .ok (.ireturn, 1) := by decide +kernel
theorem dX4_count_56 : decode cX4_count 56 = .ok (.aload_n 0, 1) := by decide +kernel
theorem dX4_count_57 : decode cX4_count 57 = .ok (.getfield 12, 3) := by decide +kernel
theorem dX4_count_60 : decode cX4_count 60 = .ok (.getfield 274, 3) := by decide +kernel
theorem dX4_count_63 : decode cX4_count 63 = .ok (.ireturn, 1) := by decide +kernel
theorem dX4_count_64 : decode cX4_count 64 = .ok (.aload_n 0, 1) := by decide +kernel
theorem dX4_count_65 : decode cX4_count 65 = .ok (.getfield 12, 3) := by decide +kernel
theorem dX4_count_68 : decode cX4_count 68 = .ok (.getfield 122, 3) := by decide +kernel
theorem dX4_count_71 : decode cX4_count 71 = .ok (.invokevirtual 277, 3) := by decide +kernel
theorem dX4_count_74 : decode cX4_count 74 = .ok (.ireturn, 1) := by decide +kernel
theorem dX4_count_75 : decode cX4_count 75 = .ok (.aload_n 0, 1) := by decide +kernel
theorem dX4_count_76 : decode cX4_count 76 = .ok (.getfield 12, 3) := by decide +kernel
theorem dX4_count_79 : decode cX4_count 79 = .ok (.invokevirtual 155, 3) := by decide +kernel
theorem dX4_count_82 : decode cX4_count 82 = .ok (.ireturn, 1) := by decide +kernel
theorem dX4_count_83 : decode cX4_count 83 = .ok (.aload_n 0, 1) := by decide +kernel
theorem dX4_count_84 : decode cX4_count 84 = .ok (.getfield 12, 3) := by decide +kernel
theorem dX4_count_87 : decode cX4_count 87 = .ok (.invokevirtual 245, 3) := by decide +kernel
theorem dX4_count_90 : decode cX4_count 90 = .ok (.ireturn, 1) := by decide +kernel
theorem dX4_count_91 : decode cX4_count 91 = .ok (.aload_n 0, 1) := by decide +kernel
theorem dX4_count_92 : decode cX4_count 92 = .ok (.getfield 12, 3) := by decide +kernel
theorem dX4_count_95 : decode cX4_count 95 = .ok (.invokevirtual 280, 3) := by decide +kernel
theorem dX4_count_98 : decode cX4_count 98 = .ok (.ireturn, 1) := by decide +kernel
theorem dX4_count_99 : decode cX4_count 99 = .ok (.aload_n 0, 1) := by decide +kernel
theorem dX4_count_100 : decode cX4_count 100 = .ok (.getfield 251, 3) := by decide +kernel
theorem dX4_count_103 : decode cX4_count 103 = .ok (.ireturn, 1) := by decide +kernel
theorem dX4_count_104 : decode cX4_count 104 = .ok (.aload_n 0, 1) := by decide +kernel
theorem dX4_count_105 : decode cX4_count 105 = .ok (.getfield 42, 3) := by decide +kernel
theorem dX4_count_108 : decode cX4_count 108 = .ok (.getfield 283, 3) := by decide +kernel
theorem dX4_count_111 : decode cX4_count 111 = .ok (.ireturn, 1) := by decide +kernel
theorem dX4_count_112 : decode cX4_count 112 = .ok (.aload_n 0, 1) := by decide +kernel
theorem dX4_count_113 : decode cX4_count 113 = .ok (.iload_n 1, 1) := by decide +kernel
theorem dX4_count_114 : decode cX4_count 114 = .ok (.invokevirtual 286, 3) := by decide +kernel
theorem dX4_count_117 : decode cX4_count 117 = .ok (.ireturn, 1) := by decide +kernel
theorem dX4_refusalCount_0 : decode cX4_refusalCount 0 = .ok (.iload_n 1, 1) := by decide +kernel
theorem dX4_refusalCount_1 : decode cX4_refusalCount 1 = .ok (.bipush 11, 2) := by decide +kernel
theorem dX4_refusalCount_3 : decode cX4_refusalCount 3 = .ok (.if_icmp .lt 9, 3) := by decide +kernel
theorem dX4_refusalCount_6 : decode cX4_refusalCount 6 = .ok (.iload_n 1, 1) := by decide +kernel
theorem dX4_refusalCount_7 : decode cX4_refusalCount 7 = .ok (.bipush 17, 2) := by decide +kernel
theorem dX4_refusalCount_9 : decode cX4_refusalCount 9 = .ok (.if_icmp .lt 6, 3) := by decide +kernel
theorem dX4_refusalCount_12 : decode cX4_refusalCount 12 = .ok (.bipush (-9), 2) := by decide +kernel
theorem dX4_refusalCount_14 : decode cX4_refusalCount 14 = .ok (.ireturn, 1) := by decide +kernel
theorem dX4_refusalCount_15 : decode cX4_refusalCount 15 = .ok (.aload_n 0, 1) := by decide +kernel
theorem dX4_refusalCount_16 : decode cX4_refusalCount 16 = .ok (.getfield 50, 3) := by decide +kernel
theorem dX4_refusalCount_19 : decode cX4_refusalCount 19 = .ok (.iload_n 1, 1) := by decide +kernel
theorem dX4_refusalCount_20 : decode cX4_refusalCount 20 = .ok (.bipush 11, 2) := by decide +kernel
theorem dX4_refusalCount_22 : decode cX4_refusalCount 22 = .ok (.isub, 1) := by decide +kernel
theorem dX4_refusalCount_23 : decode cX4_refusalCount 23 = .ok (.iconst 1, 1) := by decide +kernel
theorem dX4_refusalCount_24 : decode cX4_refusalCount 24 = .ok (.iadd, 1) := by decide +kernel
theorem dX4_refusalCount_25 : decode cX4_refusalCount 25 = .ok (.iaload, 1) := by decide +kernel
theorem dX4_refusalCount_26 : decode cX4_refusalCount 26 = .ok (.ireturn, 1) := by decide +kernel
theorem dX4_refuse_0 : decode cX4_refuse 0 = .ok (.iload_n 1, 1) := by decide +kernel
theorem dX4_refuse_1 : decode cX4_refuse 1 = .ok (.ifCond .ge 20, 3) := by decide +kernel
theorem dX4_refuse_4 : decode cX4_refuse 4 = .ok (.iload_n 1, 1) := by decide +kernel
theorem dX4_refuse_5 : decode cX4_refuse 5 = .ok (.bipush (-6), 2) := by decide +kernel
theorem dX4_refuse_7 : decode cX4_refuse 7 = .ok (.if_icmp .lt 14, 3) := by decide +kernel
theorem dX4_refuse_10 : decode cX4_refuse 10 = .ok (.aload_n 0, 1) := by decide +kernel
theorem dX4_refuse_11 : decode cX4_refuse 11 = .ok (.getfield 50, 3) := by decide +kernel
theorem dX4_refuse_14 : decode cX4_refuse 14 = .ok (.iload_n 1, 1) := by decide +kernel
theorem dX4_refuse_15 : decode cX4_refuse 15 = .ok (.ineg, 1) := by decide +kernel
theorem dX4_refuse_16 : decode cX4_refuse 16 = .ok (.dup2, 1) := by decide +kernel
theorem dX4_refuse_17 : decode cX4_refuse 17 = .ok (.iaload, 1) := by decide +kernel
theorem dX4_refuse_18 : decode cX4_refuse 18 = .ok (.iconst 1, 1) := by decide +kernel
theorem dX4_refuse_19 : decode cX4_refuse 19 = .ok (.iadd, 1) := by decide +kernel
theorem dX4_refuse_20 : decode cX4_refuse 20 = .ok (.iastore, 1) := by decide +kernel
theorem dX4_refuse_21 : decode cX4_refuse 21 = .ok (.iload_n 1, 1) := by decide +kernel
theorem dX4_refuse_22 : decode cX4_refuse 22 = .ok (.ireturn, 1) := by decide +kernel
theorem dX4_refuseLong_0 : decode cX4_refuseLong 0 = .ok (.ldc2_w 289, 3) := by decide +kernel
theorem dX4_refuseLong_3 : decode cX4_refuseLong 3 = .ok (.aload_n 0, 1) := by decide +kernel
theorem dX4_refuseLong_4 : decode cX4_refuseLong 4 = .ok (.iload_n 1, 1) := by decide +kernel
theorem dX4_refuseLong_5 : decode cX4_refuseLong 5 = .ok (.invokevirtual 63, 3) := by decide +kernel
theorem dX4_refuseLong_8 : decode cX4_refuseLong 8 = .ok (.i2l, 1) := by decide +kernel
theorem dX4_refuseLong_9 : decode cX4_refuseLong 9 = .ok (.lsub, 1) := by decide +kernel
theorem dX4_refuseLong_10 : decode cX4_refuseLong 10 = .ok (.lreturn, 1) := by decide +kernel
theorem dX4_refusalOfNumber_0 : decode cX4_refusalOfNumber 0 = .ok (.iload_n 0, 1) := by decide +kernel
theorem dX4_refusalOfNumber_1 : decode cX4_refusalOfNumber 1 = .ok (.iload_n 1, 1) := by decide +kernel
theorem dX4_refusalOfNumber_2 : decode cX4_refusalOfNumber 2 = .ok (.if_icmp .ge 6, 3) := by decide +kernel
theorem dX4_refusalOfNumber_5 : decode cX4_refusalOfNumber 5 = .ok (.bipush (-4), 2) := by decide +kernel
theorem dX4_refusalOfNumber_7 : decode cX4_refusalOfNumber 7 = .ok (.ireturn, 1) := by decide +kernel
theorem dX4_refusalOfNumber_8 : decode cX4_refusalOfNumber 8 = .ok (.iload_n 0, 1) := by decide +kernel
theorem dX4_refusalOfNumber_9 : decode cX4_refusalOfNumber 9 = .ok (.iload_n 2, 1) := by decide +kernel
theorem dX4_refusalOfNumber_10 : decode cX4_refusalOfNumber 10 = .ok (.if_icmp .le 8, 3) := by decide +kernel
theorem dX4_refusalOfNumber_13 : decode cX4_refusalOfNumber 13 = .ok (.bipush (-6), 2) := by decide +kernel
theorem dX4_refusalOfNumber_15 : decode cX4_refusalOfNumber 15 = .ok (.goto 4, 3) := by decide +kernel
theorem dX4_refusalOfNumber_18 : decode cX4_refusalOfNumber 18 = .ok (.iconst 0, 1) := by decide +kernel
theorem dX4_refusalOfNumber_19 : decode cX4_refusalOfNumber 19 = .ok (.ireturn, 1) := by decide +kernel
theorem dX4_isBelow_0 : decode cX4_isBelow 0 = .ok (.iload_n 0, 1) := by decide +kernel
theorem dX4_isBelow_1 : decode cX4_isBelow 1 = .ok (.ifCond .lt 12, 3) := by decide +kernel
theorem dX4_isBelow_4 : decode cX4_isBelow 4 = .ok (.iload_n 0, 1) := by decide +kernel
theorem dX4_isBelow_5 : decode cX4_isBelow 5 = .ok (.iload_n 1, 1) := by decide +kernel
theorem dX4_isBelow_6 : decode cX4_isBelow 6 = .ok (.if_icmp .ge 7, 3) := by decide +kernel
theorem dX4_isBelow_9 : decode cX4_isBelow 9 = .ok (.iconst 1, 1) := by decide +kernel
theorem dX4_isBelow_10 : decode cX4_isBelow 10 = .ok (.goto 4, 3) := by decide +kernel
theorem dX4_isBelow_13 : decode cX4_isBelow 13 = .ok (.iconst 0, 1) := by decide +kernel
theorem dX4_isBelow_14 : decode cX4_isBelow 14 = .ok (.ireturn, 1) := by decide +kernel
theorem dX4_isPlace_0 : decode cX4_isPlace 0 = .ok (.iload_n 0, 1) := by decide +kernel
theorem dX4_isPlace_1 : decode cX4_isPlace 1 = .ok (.ifCond .lt 13, 3) := by decide +kernel
theorem dX4_isPlace_4 : decode cX4_isPlace 4 = .ok (.iload_n 0, 1) := by decide +kernel
theorem dX4_isPlace_5 : decode cX4_isPlace 5 = .ok (.bipush 8, 2) := by decide +kernel
theorem dX4_isPlace_7 : decode cX4_isPlace 7 = .ok (.if_icmp .ge 7, 3) := by decide +kernel
theorem dX4_isPlace_10 : decode cX4_isPlace 10 = .ok (.iconst 1, 1) := by decide +kernel
theorem dX4_isPlace_11 : decode cX4_isPlace 11 = .ok (.goto 4, 3) := by decide +kernel
theorem dX4_isPlace_14 : decode cX4_isPlace 14 = .ok (.iconst 0, 1) := by decide +kernel
theorem dX4_isPlace_15 : decode cX4_isPlace 15 = .ok (.ireturn, 1) := by decide +kernel
theorem dX4_dayOrNone_0 : decode cX4_dayOrNone 0 = .ok (.iload_n 0, 1) := by decide +kernel
theorem dX4_dayOrNone_1 : decode cX4_dayOrNone 1 = .ok (.bipush 60, 2) := by decide +kernel
theorem dX4_dayOrNone_3 : decode cX4_dayOrNone 3 = .ok (.if_icmp .le 8, 3) := by decide +kernel
theorem dX4_dayOrNone_6 : decode cX4_dayOrNone 6 = .ok (.bipush (-9), 2) := by decide +kernel
theorem dX4_dayOrNone_8 : decode cX4_dayOrNone 8 = .ok (.goto 4, 3) := by decide +kernel
theorem dX4_dayOrNone_11 : decode cX4_dayOrNone 11 = .ok (.iload_n 0, 1) := by decide +kernel
theorem dX4_dayOrNone_12 : decode cX4_dayOrNone 12 = .ok (.ireturn, 1) := by decide +kernel
theorem dX4_thinkOf_0 : decode cX4_thinkOf 0 = .ok (.aload_n 0, 1) := by decide +kernel
theorem dX4_thinkOf_1 : decode cX4_thinkOf 1 = .ok (.getfield 12, 3) := by decide +kernel
theorem dX4_thinkOf_4 : decode cX4_thinkOf 4 = .ok (.iload_n 1, 1) := by decide +kernel
theorem dX4_thinkOf_5 : decode cX4_thinkOf 5 = .ok (.invokevirtual 85, 3) := by decide +kernel
theorem dX4_thinkOf_8 : decode cX4_thinkOf 8 = .ok (.ifCond .eq 19, 3) := by decide +kernel
theorem dX4_thinkOf_11 : decode cX4_thinkOf 11 = .ok (.aload_n 0, 1) := by decide +kernel
theorem dX4_thinkOf_12 : decode cX4_thinkOf 12 = .ok (.getfield 32, 3) := by decide +kernel
theorem dX4_thinkOf_15 : decode cX4_thinkOf 15 = .ok (.aload_n 0, 1) := by decide +kernel
theorem dX4_thinkOf_16 : decode cX4_thinkOf 16 = .ok (.getfield 12, 3) := by decide +kernel
theorem dX4_thinkOf_19 : decode cX4_thinkOf 19 = .ok (.getfield 89, 3) := by decide +kernel
theorem dX4_thinkOf_22 : decode cX4_thinkOf 22 = .ok (.iload_n 1, 1) := by decide +kernel
theorem dX4_thinkOf_23 : decode cX4_thinkOf 23 = .ok (.aaload, 1) := by decide +kernel
theorem dX4_thinkOf_24 : decode cX4_thinkOf 24 = .ok (.invokevirtual 188, 3) := by decide +kernel
theorem dX4_thinkOf_27 : decode cX4_thinkOf 27 = .ok (.return_, 1) := by decide +kernel
theorem dX4_comesNow_0 : decode cX4_comesNow 0 = .ok (.aload_n 0, 1) := by decide +kernel
theorem dX4_comesNow_1 : decode cX4_comesNow 1 = .ok (.iload_n 1, 1) := by decide +kernel
theorem dX4_comesNow_2 : decode cX4_comesNow 2 = .ok (.invokevirtual 167, 3) := by decide +kernel
theorem dX4_comesNow_5 : decode cX4_comesNow 5 = .ok (.aload_n 0, 1) := by decide +kernel
theorem dX4_comesNow_6 : decode cX4_comesNow 6 = .ok (.getfield 32, 3) := by decide +kernel
theorem dX4_comesNow_9 : decode cX4_comesNow 9 = .ok (.aload_n 0, 1) := by decide +kernel
theorem dX4_comesNow_10 : decode cX4_comesNow 10 = .ok (.getfield 12, 3) := by decide +kernel
theorem dX4_comesNow_13 : decode cX4_comesNow 13 = .ok (.getfield 122, 3) := by decide +kernel
theorem dX4_comesNow_16 : decode cX4_comesNow 16 = .ok (.iload_n 2, 1) := by decide +kernel
theorem dX4_comesNow_17 : decode cX4_comesNow 17 = .ok (.invokevirtual 197, 3) := by decide +kernel
theorem dX4_comesNow_20 : decode cX4_comesNow 20 = .ok (.ireturn, 1) := by decide +kernel
theorem dX4_comesWithChange_0 : decode cX4_comesWithChange 0 = .ok (.aload_n 0, 1) := by decide +kernel
theorem dX4_comesWithChange_1 : decode cX4_comesWithChange 1 = .ok (.getfield 25, 3) := by decide +kernel
theorem dX4_comesWithChange_4 : decode cX4_comesWithChange 4 = .ok (.aload_n 0, 1) := by decide +kernel
theorem dX4_comesWithChange_5 : decode cX4_comesWithChange 5 = .ok (.getfield 12, 3) := by decide +kernel
theorem dX4_comesWithChange_8 : decode cX4_comesWithChange 8 = .ok (.getfield 122, 3) := by decide +kernel
theorem dX4_comesWithChange_11 : decode cX4_comesWithChange 11 = .ok (.invokevirtual 291, 3) := by decide +kernel
theorem dX4_comesWithChange_14 : decode cX4_comesWithChange 14 = .ok (.aload_n 0, 1) := by decide +kernel
theorem dX4_comesWithChange_15 : decode cX4_comesWithChange 15 = .ok (.getfield 25, 3) := by decide +kernel
theorem dX4_comesWithChange_18 : decode cX4_comesWithChange 18 = .ok (.iload_n 3, 1) := by decide +kernel
theorem dX4_comesWithChange_19 : decode cX4_comesWithChange 19 = .ok (.iload 4, 2) := by decide +kernel
theorem dX4_comesWithChange_21 : decode cX4_comesWithChange 21 = .ok (.invokevirtual 293, 3) := by decide +kernel
theorem dX4_comesWithChange_24 : decode cX4_comesWithChange 24 = .ok (.aload_n 0, 1) := by decide +kernel
theorem dX4_comesWithChange_25 : decode cX4_comesWithChange 25 = .ok (.iload_n 1, 1) := by decide +kernel
theorem dX4_comesWithChange_26 : decode cX4_comesWithChange 26 = .ok (.invokevirtual 167, 3) := by decide +kernel
theorem dX4_comesWithChange_29 : decode cX4_comesWithChange 29 = .ok (.aload_n 0, 1) := by decide +kernel
theorem dX4_comesWithChange_30 : decode cX4_comesWithChange 30 = .ok (.getfield 32, 3) := by decide +kernel
theorem dX4_comesWithChange_33 : decode cX4_comesWithChange 33 = .ok (.aload_n 0, 1) := by decide +kernel
theorem dX4_comesWithChange_34 : decode cX4_comesWithChange 34 = .ok (.getfield 25, 3) := by decide +kernel
theorem dX4_comesWithChange_37 : decode cX4_comesWithChange 37 = .ok (.iload_n 2, 1) := by decide +kernel
theorem dX4_comesWithChange_38 : decode cX4_comesWithChange 38 = .ok (.invokevirtual 197, 3) := by decide +kernel
theorem dX4_comesWithChange_41 : decode cX4_comesWithChange 41 = .ok (.ireturn, 1) := by decide +kernel
theorem dX4_mindDaysWhereHeSays_0 : decode cX4_mindDaysWhereHeSays 0 = .ok (.lconst 0, 1) := by decide +kernel
theorem dX4_mindDaysWhereHeSays_1 : decode cX4_mindDaysWhereHeSays 1 = .ok (.lstore_n 1, 1) := by decide +kernel
theorem dX4_mindDaysWhereHeSays_2 : decode cX4_mindDaysWhereHeSays 2 = .ok (.iconst 0, 1) := by decide +kernel
theorem dX4_mindDaysWhereHeSays_3 : decode cX4_mindDaysWhereHeSays 3 = .ok (.istore_n 3, 1) := by decide +kernel
theorem dX4_mindDaysWhereHeSays_4 : decode cX4_mindDaysWhereHeSays 4 = .ok (.iload_n 3, 1) := by decide +kernel
theorem dX4_mindDaysWhereHeSays_5 : decode cX4_mindDaysWhereHeSays 5 = .ok (.bipush 60, 2) := by decide +kernel
theorem dX4_mindDaysWhereHeSays_7 : decode cX4_mindDaysWhereHeSays 7 = .ok (.if_icmp .gt 39, 3) := by decide +kernel
theorem dX4_mindDaysWhereHeSays_10 : decode cX4_mindDaysWhereHeSays 10 = .ok (.aload_n 0, 1) := by decide +kernel
theorem dX4_mindDaysWhereHeSays_11 : decode cX4_mindDaysWhereHeSays 11 = .ok (.getfield 32, 3) := by decide +kernel
theorem dX4_mindDaysWhereHeSays_14 : decode cX4_mindDaysWhereHeSays 14 = .ok (.invokevirtual 267, 3) := by decide +kernel
theorem dX4_mindDaysWhereHeSays_17 : decode cX4_mindDaysWhereHeSays 17 = .ok (.ifCond .eq 9, 3) := by decide +kernel
theorem dX4_mindDaysWhereHeSays_20 : decode cX4_mindDaysWhereHeSays 20 = .ok (.lload_n 1, 1) := by decide +kernel
theorem dX4_mindDaysWhereHeSays_21 : decode cX4_mindDaysWhereHeSays 21 = .ok (.lconst 1, 1) := by decide +kernel
theorem dX4_mindDaysWhereHeSays_22 : decode cX4_mindDaysWhereHeSays 22 = .ok (.iload_n 3, 1) := by decide +kernel
theorem dX4_mindDaysWhereHeSays_23 : decode cX4_mindDaysWhereHeSays 23 = .ok (.lshl, 1) := by decide +kernel
theorem dX4_mindDaysWhereHeSays_24 : decode cX4_mindDaysWhereHeSays 24 = .ok (.lor, 1) := by decide +kernel
theorem dX4_mindDaysWhereHeSays_25 : decode cX4_mindDaysWhereHeSays 25 = .ok (.lstore_n 1, 1) := by decide +kernel
theorem dX4_mindDaysWhereHeSays_26 : decode cX4_mindDaysWhereHeSays 26 = .ok (.aload_n 0, 1) := by decide +kernel
theorem dX4_mindDaysWhereHeSays_27 : decode cX4_mindDaysWhereHeSays 27 = .ok (.getfield 32, 3) := by decide +kernel
theorem dX4_mindDaysWhereHeSays_30 : decode cX4_mindDaysWhereHeSays 30 = .ok (.aload_n 0, 1) := by decide +kernel
theorem dX4_mindDaysWhereHeSays_31 : decode cX4_mindDaysWhereHeSays 31 = .ok (.getfield 12, 3) := by decide +kernel
theorem dX4_mindDaysWhereHeSays_34 : decode cX4_mindDaysWhereHeSays 34 = .ok (.getfield 122, 3) := by decide +kernel
theorem dX4_mindDaysWhereHeSays_37 : decode cX4_mindDaysWhereHeSays 37 = .ok (.invokevirtual 184, 3) := by decide +kernel
theorem dX4_mindDaysWhereHeSays_40 : decode cX4_mindDaysWhereHeSays 40 = .ok (.iinc 3 1, 3) := by decide +kernel
theorem dX4_mindDaysWhereHeSays_43 : decode cX4_mindDaysWhereHeSays 43 = .ok (.goto (-39), 3) := by decide +kernel
theorem dX4_mindDaysWhereHeSays_46 : decode cX4_mindDaysWhereHeSays 46 = .ok (.lload_n 1, 1) := by decide +kernel
theorem dX4_mindDaysWhereHeSays_47 : decode cX4_mindDaysWhereHeSays 47 = .ok (.lreturn, 1) := by decide +kernel
theorem dX4_noteGuests_0 : decode cX4_noteGuests 0 = .ok (.iconst 0, 1) := by decide +kernel
theorem dX4_noteGuests_1 : decode cX4_noteGuests 1 = .ok (.istore_n 2, 1) := by decide +kernel
theorem dX4_noteGuests_2 : decode cX4_noteGuests 2 = .ok (.iload_n 2, 1) := by decide +kernel
theorem dX4_noteGuests_3 : decode cX4_noteGuests 3 = .ok (.bipush 8, 2) := by decide +kernel
theorem dX4_noteGuests_5 : decode cX4_noteGuests 5 = .ok (.if_icmp .ge 16, 3) := by decide +kernel
theorem dX4_noteGuests_8 : decode cX4_noteGuests 8 = .ok (.aload_n 0, 1) := by decide +kernel
theorem dX4_noteGuests_9 : decode cX4_noteGuests 9 = .ok (.getfield 53, 3) := by decide +kernel
theorem dX4_noteGuests_12 : decode cX4_noteGuests 12 = .ok (.iload_n 2, 1) := by decide +kernel
theorem dX4_noteGuests_13 : decode cX4_noteGuests 13 = .ok (.iconst 0, 1) := by decide +kernel
theorem dX4_noteGuests_14 : decode cX4_noteGuests 14 = .ok (.iastore, 1) := by decide +kernel
theorem dX4_noteGuests_15 : decode cX4_noteGuests 15 = .ok (.iinc 2 1, 3) := by decide +kernel
theorem dX4_noteGuests_18 : decode cX4_noteGuests 18 = .ok (.goto (-16), 3) := by decide +kernel
theorem dX4_noteGuests_21 : decode cX4_noteGuests 21 = .ok (.iconst 0, 1) := by decide +kernel
theorem dX4_noteGuests_22 : decode cX4_noteGuests 22 = .ok (.istore_n 2, 1) := by decide +kernel
theorem dX4_noteGuests_23 : decode cX4_noteGuests 23 = .ok (.iload_n 2, 1) := by decide +kernel
theorem dX4_noteGuests_24 : decode cX4_noteGuests 24 = .ok (.aload_n 0, 1) := by decide +kernel
theorem dX4_noteGuests_25 : decode cX4_noteGuests 25 = .ok (.getfield 12, 3) := by decide +kernel
theorem dX4_noteGuests_28 : decode cX4_noteGuests 28 = .ok (.getfield 181, 3) := by decide +kernel
theorem dX4_noteGuests_31 : decode cX4_noteGuests 31 = .ok (.if_icmp .ge 72, 3) := by decide +kernel
theorem dX4_noteGuests_34 : decode cX4_noteGuests 34 = .ok (.aload_n 0, 1) := by decide +kernel
theorem dX4_noteGuests_35 : decode cX4_noteGuests 35 = .ok (.iload_n 2, 1) := by decide +kernel
theorem dX4_noteGuests_36 : decode cX4_noteGuests 36 = .ok (.invokevirtual 167, 3) := by decide +kernel
theorem dX4_noteGuests_39 : decode cX4_noteGuests 39 = .ok (.iconst 0, 1) := by decide +kernel
theorem dX4_noteGuests_40 : decode cX4_noteGuests 40 = .ok (.istore_n 3, 1) := by decide +kernel
theorem dX4_noteGuests_41 : decode cX4_noteGuests 41 = .ok (.iload_n 3, 1) := by decide +kernel
theorem dX4_noteGuests_42 : decode cX4_noteGuests 42 = .ok (.iload_n 1, 1) := by decide +kernel
theorem dX4_noteGuests_43 : decode cX4_noteGuests 43 = .ok (.if_icmp .gt 54, 3) := by decide +kernel
theorem dX4_noteGuests_46 : decode cX4_noteGuests 46 = .ok (.aload_n 0, 1) := by decide +kernel
theorem dX4_noteGuests_47 : decode cX4_noteGuests 47 = .ok (.getfield 32, 3) := by decide +kernel
theorem dX4_noteGuests_50 : decode cX4_noteGuests 50 = .ok (.getfield 106, 3) := by decide +kernel
theorem dX4_noteGuests_53 : decode cX4_noteGuests 53 = .ok (.invokestatic 119, 3) := by decide +kernel
theorem dX4_noteGuests_56 : decode cX4_noteGuests 56 = .ok (.ifCond .eq 21, 3) := by decide +kernel
theorem dX4_noteGuests_59 : decode cX4_noteGuests 59 = .ok (.aload_n 0, 1) := by decide +kernel
theorem dX4_noteGuests_60 : decode cX4_noteGuests 60 = .ok (.getfield 53, 3) := by decide +kernel
theorem dX4_noteGuests_63 : decode cX4_noteGuests 63 = .ok (.aload_n 0, 1) := by decide +kernel
theorem dX4_noteGuests_64 : decode cX4_noteGuests 64 = .ok (.getfield 32, 3) := by decide +kernel
theorem dX4_noteGuests_67 : decode cX4_noteGuests 67 = .ok (.getfield 106, 3) := by decide +kernel
theorem dX4_noteGuests_70 : decode cX4_noteGuests 70 = .ok (.dup2, 1) := by decide +kernel
theorem dX4_noteGuests_71 : decode cX4_noteGuests 71 = .ok (.iaload, 1) := by decide +kernel
theorem dX4_noteGuests_72 : decode cX4_noteGuests 72 = .ok (.iconst 1, 1) := by decide +kernel
theorem dX4_noteGuests_73 : decode cX4_noteGuests 73 = .ok (.iload_n 2, 1) := by decide +kernel
theorem dX4_noteGuests_74 : decode cX4_noteGuests 74 = .ok (.ishl, 1) := by decide +kernel
theorem dX4_noteGuests_75 : decode cX4_noteGuests 75 = .ok (.ior, 1) := by decide +kernel
theorem dX4_noteGuests_76 : decode cX4_noteGuests 76 = .ok (.iastore, 1) := by decide +kernel
theorem dX4_noteGuests_77 : decode cX4_noteGuests 77 = .ok (.aload_n 0, 1) := by decide +kernel
theorem dX4_noteGuests_78 : decode cX4_noteGuests 78 = .ok (.getfield 32, 3) := by decide +kernel
theorem dX4_noteGuests_81 : decode cX4_noteGuests 81 = .ok (.aload_n 0, 1) := by decide +kernel
theorem dX4_noteGuests_82 : decode cX4_noteGuests 82 = .ok (.getfield 12, 3) := by decide +kernel
theorem dX4_noteGuests_85 : decode cX4_noteGuests 85 = .ok (.getfield 122, 3) := by decide +kernel
theorem dX4_noteGuests_88 : decode cX4_noteGuests 88 = .ok (.invokevirtual 184, 3) := by decide +kernel
theorem dX4_noteGuests_91 : decode cX4_noteGuests 91 = .ok (.iinc 3 1, 3) := by decide +kernel
theorem dX4_noteGuests_94 : decode cX4_noteGuests 94 = .ok (.goto (-53), 3) := by decide +kernel
theorem dX4_noteGuests_97 : decode cX4_noteGuests 97 = .ok (.iinc 2 1, 3) := by decide +kernel
theorem dX4_noteGuests_100 : decode cX4_noteGuests 100 = .ok (.goto (-77), 3) := by decide +kernel
theorem dX4_noteGuests_103 : decode cX4_noteGuests 103 = .ok (.return_, 1) := by decide +kernel
theorem dX4_totalWithBare_0 : decode cX4_totalWithBare 0 = .ok (.iconst 0, 1) := by decide +kernel
theorem dX4_totalWithBare_1 : decode cX4_totalWithBare 1 = .ok (.istore_n 3, 1) := by decide +kernel
theorem dX4_totalWithBare_2 : decode cX4_totalWithBare 2 = .ok (.iconst 0, 1) := by decide +kernel
theorem dX4_totalWithBare_3 : decode cX4_totalWithBare 3 = .ok (.istore 4, 2) := by decide +kernel
theorem dX4_totalWithBare_5 : decode cX4_totalWithBare 5 = .ok (.iload 4, 2) := by decide +kernel
theorem dX4_totalWithBare_7 : decode cX4_totalWithBare 7 = .ok (.aload_n 0, 1) := by decide +kernel
theorem dX4_totalWithBare_8 : decode cX4_totalWithBare 8 = .ok (.getfield 12, 3) := by decide +kernel
theorem dX4_totalWithBare_11 : decode cX4_totalWithBare 11 = .ok (.getfield 181, 3) := by decide +kernel
theorem dX4_totalWithBare_14 : decode cX4_totalWithBare 14 = .ok (.if_icmp .ge 61, 3) := by decide +kernel
theorem dX4_totalWithBare_17 : decode cX4_totalWithBare 17 = .ok (.aload_n 0, 1) := by decide +kernel
theorem dX4_totalWithBare_18 : decode cX4_totalWithBare 18 = .ok (.iload 4, 2) := by decide +kernel
theorem dX4_totalWithBare_20 : decode cX4_totalWithBare 20 = .ok (.invokevirtual 167, 3) := by decide +kernel
theorem dX4_totalWithBare_23 : decode cX4_totalWithBare 23 = .ok (.iload 4, 2) := by decide +kernel
theorem dX4_totalWithBare_25 : decode cX4_totalWithBare 25 = .ok (.iload_n 1, 1) := by decide +kernel
theorem dX4_totalWithBare_26 : decode cX4_totalWithBare 26 = .ok (.if_icmp .ne 11, 3) := by decide +kernel
theorem dX4_totalWithBare_29 : decode cX4_totalWithBare 29 = .ok (.aload_n 0, 1) := by decide +kernel
theorem dX4_totalWithBare_30 : decode cX4_totalWithBare 30 = .ok (.getfield 32, 3) := by decide +kernel
theorem dX4_totalWithBare_33 : decode cX4_totalWithBare 33 = .ok (.iconst 0, 1) := by decide +kernel
theorem dX4_totalWithBare_34 : decode cX4_totalWithBare 34 = .ok (.putfield 109, 3) := by decide +kernel
theorem dX4_totalWithBare_37 : decode cX4_totalWithBare 37 = .ok (.aload_n 0, 1) := by decide +kernel
theorem dX4_totalWithBare_38 : decode cX4_totalWithBare 38 = .ok (.getfield 32, 3) := by decide +kernel
theorem dX4_totalWithBare_41 : decode cX4_totalWithBare 41 = .ok (.aload_n 0, 1) := by decide +kernel
theorem dX4_totalWithBare_42 : decode cX4_totalWithBare 42 = .ok (.getfield 12, 3) := by decide +kernel
theorem dX4_totalWithBare_45 : decode cX4_totalWithBare 45 = .ok (.getfield 122, 3) := by decide +kernel
theorem dX4_totalWithBare_48 : decode cX4_totalWithBare 48 = .ok (.iload_n 2, 1) := by decide +kernel
theorem dX4_totalWithBare_49 : decode cX4_totalWithBare 49 = .ok (.invokevirtual 171, 3) := by decide +kernel
theorem dX4_totalWithBare_52 : decode cX4_totalWithBare 52 = .ok (.iload_n 3, 1) := by decide +kernel
theorem dX4_totalWithBare_53 : decode cX4_totalWithBare 53 = .ok (.aload_n 0, 1) := by decide +kernel
theorem dX4_totalWithBare_54 : decode cX4_totalWithBare 54 = .ok (.getfield 32, 3) := by decide +kernel
theorem dX4_totalWithBare_57 : decode cX4_totalWithBare 57 = .ok (.aload_n 0, 1) := by decide +kernel
theorem dX4_totalWithBare_58 : decode cX4_totalWithBare 58 = .ok (.getfield 12, 3) := by decide +kernel
theorem dX4_totalWithBare_61 : decode cX4_totalWithBare 61 = .ok (.getfield 122, 3) := by decide +kernel
theorem dX4_totalWithBare_64 : decode cX4_totalWithBare 64 = .ok (.invokevirtual 263, 3) := by decide +kernel
theorem dX4_totalWithBare_67 : decode cX4_totalWithBare 67 = .ok (.iadd, 1) := by decide +kernel
theorem dX4_totalWithBare_68 : decode cX4_totalWithBare 68 = .ok (.istore_n 3, 1) := by decide +kernel
theorem dX4_totalWithBare_69 : decode cX4_totalWithBare 69 = .ok (.iinc 4 1, 3) := by decide +kernel
theorem dX4_totalWithBare_72 : decode cX4_totalWithBare 72 = .ok (.goto (-67), 3) := by decide +kernel
theorem dX4_totalWithBare_75 : decode cX4_totalWithBare 75 = .ok (.iload_n 3, 1) := by decide +kernel
theorem dX4_totalWithBare_76 : decode cX4_totalWithBare 76 = .ok (.ireturn, 1) := by decide +kernel
theorem dX4_costOfChoice_0 : decode cX4_costOfChoice 0 = .ok (.aload_n 0, 1) := by decide +kernel
theorem dX4_costOfChoice_1 : decode cX4_costOfChoice 1 = .ok (.iload_n 1, 1) := by decide +kernel
theorem dX4_costOfChoice_2 : decode cX4_costOfChoice 2 = .ok (.invokevirtual 167, 3) := by decide +kernel
theorem dX4_costOfChoice_5 : decode cX4_costOfChoice 5 = .ok (.iload_n 2, 1) := by decide +kernel
theorem dX4_costOfChoice_6 : decode cX4_costOfChoice 6 = .ok (.iconst 1, 1) := by decide +kernel
theorem dX4_costOfChoice_7 : decode cX4_costOfChoice 7 = .ok (.if_icmp .ne 10, 3) := by decide +kernel
theorem dX4_costOfChoice_10 : decode cX4_costOfChoice 10 = .ok (.aload_n 0, 1) := by decide +kernel
theorem dX4_costOfChoice_11 : decode cX4_costOfChoice 11 = .ok (.getfield 32, 3) := by decide +kernel
theorem dX4_costOfChoice_14 : decode cX4_costOfChoice 14 = .ok (.invokevirtual 297, 3) := by decide +kernel
theorem dX4_costOfChoice_17 : decode cX4_costOfChoice 17 = .ok (.aload_n 0, 1) := by decide +kernel
theorem dX4_costOfChoice_18 : decode cX4_costOfChoice 18 = .ok (.getfield 32, 3) := by decide +kernel
theorem dX4_costOfChoice_21 : decode cX4_costOfChoice 21 = .ok (.aload_n 0, 1) := by decide +kernel
theorem dX4_costOfChoice_22 : decode cX4_costOfChoice 22 = .ok (.getfield 12, 3) := by decide +kernel
theorem dX4_costOfChoice_25 : decode cX4_costOfChoice 25 = .ok (.getfield 122, 3) := by decide +kernel
theorem dX4_costOfChoice_28 : decode cX4_costOfChoice 28 = .ok (.iload_n 3, 1) := by decide +kernel
theorem dX4_costOfChoice_29 : decode cX4_costOfChoice 29 = .ok (.invokevirtual 171, 3) := by decide +kernel
theorem dX4_costOfChoice_32 : decode cX4_costOfChoice 32 = .ok (.aload_n 0, 1) := by decide +kernel
theorem dX4_costOfChoice_33 : decode cX4_costOfChoice 33 = .ok (.getfield 32, 3) := by decide +kernel
theorem dX4_costOfChoice_36 : decode cX4_costOfChoice 36 = .ok (.aload_n 0, 1) := by decide +kernel
theorem dX4_costOfChoice_37 : decode cX4_costOfChoice 37 = .ok (.getfield 12, 3) := by decide +kernel
theorem dX4_costOfChoice_40 : decode cX4_costOfChoice 40 = .ok (.getfield 122, 3) := by decide +kernel
theorem dX4_costOfChoice_43 : decode cX4_costOfChoice 43 = .ok (.invokevirtual 263, 3) := by decide +kernel
theorem dX4_costOfChoice_46 : decode cX4_costOfChoice 46 = .ok (.iload_n 2, 1) := by decide +kernel
theorem dX4_costOfChoice_47 : decode cX4_costOfChoice 47 = .ok (.iadd, 1) := by decide +kernel
theorem dX4_costOfChoice_48 : decode cX4_costOfChoice 48 = .ok (.ireturn, 1) := by decide +kernel
theorem dX4_startChances_0 : decode cX4_startChances 0 = .ok (.aload_n 0, 1) := by decide +kernel
theorem dX4_startChances_1 : decode cX4_startChances 1 = .ok (.iload_n 1, 1) := by decide +kernel
theorem dX4_startChances_2 : decode cX4_startChances 2 = .ok (.invokevirtual 167, 3) := by decide +kernel
theorem dX4_startChances_5 : decode cX4_startChances 5 = .ok (.iconst 0, 1) := by decide +kernel
theorem dX4_startChances_6 : decode cX4_startChances 6 = .ok (.istore_n 2, 1) := by decide +kernel
theorem dX4_startChances_7 : decode cX4_startChances 7 = .ok (.iload_n 2, 1) := by decide +kernel
theorem dX4_startChances_8 : decode cX4_startChances 8 = .ok (.bipush 8, 2) := by decide +kernel
theorem dX4_startChances_10 : decode cX4_startChances 10 = .ok (.if_icmp .ge 31, 3) := by decide +kernel
theorem dX4_startChances_13 : decode cX4_startChances 13 = .ok (.aload_n 0, 1) := by decide +kernel
theorem dX4_startChances_14 : decode cX4_startChances 14 = .ok (.getfield 56, 3) := by decide +kernel
theorem dX4_startChances_17 : decode cX4_startChances 17 = .ok (.iload_n 2, 1) := by decide +kernel
theorem dX4_startChances_18 : decode cX4_startChances 18 = .ok (.iload_n 2, 1) := by decide +kernel
theorem dX4_startChances_19 : decode cX4_startChances 19 = .ok (.aload_n 0, 1) := by decide +kernel
theorem dX4_startChances_20 : decode cX4_startChances 20 = .ok (.getfield 32, 3) := by decide +kernel
theorem dX4_startChances_23 : decode cX4_startChances 23 = .ok (.getfield 106, 3) := by decide +kernel
theorem dX4_startChances_26 : decode cX4_startChances 26 = .ok (.if_icmp .ne 7, 3) := by decide +kernel
theorem dX4_startChances_29 : decode cX4_startChances 29 = .ok (.lconst 1, 1) := by decide +kernel
theorem dX4_startChances_30 : decode cX4_startChances 30 = .ok (.goto 4, 3) := by decide +kernel
theorem dX4_startChances_33 : decode cX4_startChances 33 = .ok (.lconst 0, 1) := by decide +kernel
theorem dX4_startChances_34 : decode cX4_startChances 34 = .ok (.lastore, 1) := by decide +kernel
theorem dX4_startChances_35 : decode cX4_startChances 35 = .ok (.iinc 2 1, 3) := by decide +kernel
theorem dX4_startChances_38 : decode cX4_startChances 38 = .ok (.goto (-31), 3) := by decide +kernel
theorem dX4_startChances_41 : decode cX4_startChances 41 = .ok (.return_, 1) := by decide +kernel
theorem dX4_spreadChances_0 : decode cX4_spreadChances 0 = .ok (.iconst 0, 1) := by decide +kernel
theorem dX4_spreadChances_1 : decode cX4_spreadChances 1 = .ok (.istore_n 2, 1) := by decide +kernel
theorem dX4_spreadChances_2 : decode cX4_spreadChances 2 = .ok (.iload_n 2, 1) := by decide +kernel
theorem dX4_spreadChances_3 : decode cX4_spreadChances 3 = .ok (.bipush 8, 2) := by decide +kernel
theorem dX4_spreadChances_5 : decode cX4_spreadChances 5 = .ok (.if_icmp .ge 21, 3) := by decide +kernel
theorem dX4_spreadChances_8 : decode cX4_spreadChances 8 = .ok (.aload_n 0, 1) := by decide +kernel
theorem dX4_spreadChances_9 : decode cX4_spreadChances 9 = .ok (.getfield 60, 3) := by decide +kernel
theorem dX4_spreadChances_12 : decode cX4_spreadChances 12 = .ok (.iload_n 2, 1) := by decide +kernel
theorem dX4_spreadChances_13 : decode cX4_spreadChances 13 = .ok (.aload_n 0, 1) := by decide +kernel
theorem dX4_spreadChances_14 : decode cX4_spreadChances 14 = .ok (.getfield 56, 3) := by decide +kernel
theorem dX4_spreadChances_17 : decode cX4_spreadChances 17 = .ok (.iload_n 2, 1) := by decide +kernel
theorem dX4_spreadChances_18 : decode cX4_spreadChances 18 = .ok (.laload, 1) := by decide +kernel
theorem dX4_spreadChances_19 : decode cX4_spreadChances 19 = .ok (.lastore, 1) := by decide +kernel
theorem dX4_spreadChances_20 : decode cX4_spreadChances 20 = .ok (.iinc 2 1, 3) := by decide +kernel
theorem dX4_spreadChances_23 : decode cX4_spreadChances 23 = .ok (.goto (-21), 3) := by decide +kernel
theorem dX4_spreadChances_26 : decode cX4_spreadChances 26 = .ok (.iconst 0, 1) := by decide +kernel
theorem dX4_spreadChances_27 : decode cX4_spreadChances 27 = .ok (.istore_n 2, 1) := by decide +kernel
theorem dX4_spreadChances_28 : decode cX4_spreadChances 28 = .ok (.iload_n 2, 1) := by decide +kernel
theorem dX4_spreadChances_29 : decode cX4_spreadChances 29 = .ok (.bipush 8, 2) := by decide +kernel
theorem dX4_spreadChances_31 : decode cX4_spreadChances 31 = .ok (.if_icmp .ge 52, 3) := by decide +kernel
theorem dX4_spreadChances_34 : decode cX4_spreadChances 34 = .ok (.aload_n 0, 1) := by decide +kernel
theorem dX4_spreadChances_35 : decode cX4_spreadChances 35 = .ok (.getfield 32, 3) := by decide +kernel
theorem dX4_spreadChances_38 : decode cX4_spreadChances 38 = .ok (.aload_n 0, 1) := by decide +kernel
theorem dX4_spreadChances_39 : decode cX4_spreadChances 39 = .ok (.getfield 12, 3) := by decide +kernel
theorem dX4_spreadChances_42 : decode cX4_spreadChances 42 = .ok (.getfield 122, 3) := by decide +kernel
theorem dX4_spreadChances_45 : decode cX4_spreadChances 45 = .ok (.iload_n 2, 1) := by decide +kernel
theorem dX4_spreadChances_46 : decode cX4_spreadChances 46 = .ok (.invokevirtual 299, 3) := by decide +kernel
theorem dX4_spreadChances_49 : decode cX4_spreadChances 49 = .ok (.istore_n 3, 1) := by decide +kernel
theorem dX4_spreadChances_50 : decode cX4_spreadChances 50 = .ok (.iload_n 3, 1) := by decide +kernel
theorem dX4_spreadChances_51 : decode cX4_spreadChances 51 = .ok (.invokestatic 119, 3) := by decide +kernel
theorem dX4_spreadChances_54 : decode cX4_spreadChances 54 = .ok (.ifCond .eq 23, 3) := by decide +kernel
theorem dX4_spreadChances_57 : decode cX4_spreadChances 57 = .ok (.aload_n 0, 1) := by decide +kernel
theorem dX4_spreadChances_58 : decode cX4_spreadChances 58 = .ok (.getfield 60, 3) := by decide +kernel
theorem dX4_spreadChances_61 : decode cX4_spreadChances 61 = .ok (.iload_n 3, 1) := by decide +kernel
theorem dX4_spreadChances_62 : decode cX4_spreadChances 62 = .ok (.dup2, 1) := by decide +kernel
theorem dX4_spreadChances_63 : decode cX4_spreadChances 63 = .ok (.laload, 1) := by decide +kernel
theorem dX4_spreadChances_64 : decode cX4_spreadChances 64 = .ok (.aload_n 0, 1) := by decide +kernel
theorem dX4_spreadChances_65 : decode cX4_spreadChances 65 = .ok (.getfield 56, 3) := by decide +kernel
theorem dX4_spreadChances_68 : decode cX4_spreadChances 68 = .ok (.iload_n 2, 1) := by decide +kernel
theorem dX4_spreadChances_69 : decode cX4_spreadChances 69 = .ok (.laload, 1) := by decide +kernel
theorem dX4_spreadChances_70 : decode cX4_spreadChances 70 = .ok (.iload_n 1, 1) := by decide +kernel
theorem dX4_spreadChances_71 : decode cX4_spreadChances 71 = .ok (.iconst 1, 1) := by decide +kernel
theorem dX4_spreadChances_72 : decode cX4_spreadChances 72 = .ok (.isub, 1) := by decide +kernel
theorem dX4_spreadChances_73 : decode cX4_spreadChances 73 = .ok (.i2l, 1) := by decide +kernel
theorem dX4_spreadChances_74 : decode cX4_spreadChances 74 = .ok (.lmul, 1) := by decide +kernel
theorem dX4_spreadChances_75 : decode cX4_spreadChances 75 = .ok (.ladd, 1) := by decide +kernel
theorem dX4_spreadChances_76 : decode cX4_spreadChances 76 = .ok (.lastore, 1) := by decide +kernel
theorem dX4_spreadChances_77 : decode cX4_spreadChances 77 = .ok (.iinc 2 1, 3) := by decide +kernel
theorem dX4_spreadChances_80 : decode cX4_spreadChances 80 = .ok (.goto (-52), 3) := by decide +kernel
theorem dX4_spreadChances_83 : decode cX4_spreadChances 83 = .ok (.iconst 0, 1) := by decide +kernel
theorem dX4_spreadChances_84 : decode cX4_spreadChances 84 = .ok (.istore_n 2, 1) := by decide +kernel
theorem dX4_spreadChances_85 : decode cX4_spreadChances 85 = .ok (.iload_n 2, 1) := by decide +kernel
theorem dX4_spreadChances_86 : decode cX4_spreadChances 86 = .ok (.bipush 8, 2) := by decide +kernel
theorem dX4_spreadChances_88 : decode cX4_spreadChances 88 = .ok (.if_icmp .ge 21, 3) := by decide +kernel
theorem dX4_spreadChances_91 : decode cX4_spreadChances 91 = .ok (.aload_n 0, 1) := by decide +kernel
theorem dX4_spreadChances_92 : decode cX4_spreadChances 92 = .ok (.getfield 56, 3) := by decide +kernel
theorem dX4_spreadChances_95 : decode cX4_spreadChances 95 = .ok (.iload_n 2, 1) := by decide +kernel
theorem dX4_spreadChances_96 : decode cX4_spreadChances 96 = .ok (.aload_n 0, 1) := by decide +kernel
theorem dX4_spreadChances_97 : decode cX4_spreadChances 97 = .ok (.getfield 60, 3) := by decide +kernel
theorem dX4_spreadChances_100 : decode cX4_spreadChances 100 = .ok (.iload_n 2, 1) := by decide +kernel
theorem dX4_spreadChances_101 : decode cX4_spreadChances 101 = .ok (.laload, 1) := by decide +kernel
theorem dX4_spreadChances_102 : decode cX4_spreadChances 102 = .ok (.lastore, 1) := by decide +kernel
theorem dX4_spreadChances_103 : decode cX4_spreadChances 103 = .ok (.iinc 2 1, 3) := by decide +kernel
theorem dX4_spreadChances_106 : decode cX4_spreadChances 106 = .ok (.goto (-21), 3) := by decide +kernel
theorem dX4_spreadChances_109 : decode cX4_spreadChances 109 = .ok (.return_, 1) := by decide +kernel
theorem dX4_mindFollowsRow_0 : decode cX4_mindFollowsRow 0 = .ok (.iconst 0, 1) := by decide +kernel
theorem dX4_mindFollowsRow_1 : decode cX4_mindFollowsRow 1 = .ok (.istore_n 1, 1) := by decide +kernel
theorem dX4_mindFollowsRow_2 : decode cX4_mindFollowsRow 2 = .ok (.iload_n 1, 1) := by decide +kernel
theorem dX4_mindFollowsRow_3 : decode cX4_mindFollowsRow 3 = .ok (.aload_n 0, 1) := by decide +kernel
theorem dX4_mindFollowsRow_4 : decode cX4_mindFollowsRow 4 = .ok (.getfield 251, 3) := by decide +kernel
theorem dX4_mindFollowsRow_7 : decode cX4_mindFollowsRow 7 = .ok (.if_icmp .ge 41, 3) := by decide +kernel
theorem dX4_mindFollowsRow_10 : decode cX4_mindFollowsRow 10 = .ok (.aload_n 0, 1) := by decide +kernel
theorem dX4_mindFollowsRow_11 : decode cX4_mindFollowsRow 11 = .ok (.getfield 46, 3) := by decide +kernel
theorem dX4_mindFollowsRow_14 : decode cX4_mindFollowsRow 14 = .ok (.iload_n 1, 1) := by decide +kernel
theorem dX4_mindFollowsRow_15 : decode cX4_mindFollowsRow 15 = .ok (.iaload, 1) := by decide +kernel
theorem dX4_mindFollowsRow_16 : decode cX4_mindFollowsRow 16 = .ok (.aload_n 0, 1) := by decide +kernel
theorem dX4_mindFollowsRow_17 : decode cX4_mindFollowsRow 17 = .ok (.getfield 32, 3) := by decide +kernel
theorem dX4_mindFollowsRow_20 : decode cX4_mindFollowsRow 20 = .ok (.getfield 106, 3) := by decide +kernel
theorem dX4_mindFollowsRow_23 : decode cX4_mindFollowsRow 23 = .ok (.if_icmp .eq 5, 3) := by decide +kernel
theorem dX4_mindFollowsRow_26 : decode cX4_mindFollowsRow 26 = .ok (.iconst 0, 1) := by decide +kernel
theorem dX4_mindFollowsRow_27 : decode cX4_mindFollowsRow 27 = .ok (.ireturn, 1) := by decide +kernel
theorem dX4_mindFollowsRow_28 : decode cX4_mindFollowsRow 28 = .ok (.aload_n 0, 1) := by decide +kernel
theorem dX4_mindFollowsRow_29 : decode cX4_mindFollowsRow 29 = .ok (.getfield 32, 3) := by decide +kernel
theorem dX4_mindFollowsRow_32 : decode cX4_mindFollowsRow 32 = .ok (.aload_n 0, 1) := by decide +kernel
theorem dX4_mindFollowsRow_33 : decode cX4_mindFollowsRow 33 = .ok (.getfield 12, 3) := by decide +kernel
theorem dX4_mindFollowsRow_36 : decode cX4_mindFollowsRow 36 = .ok (.getfield 122, 3) := by decide +kernel
theorem dX4_mindFollowsRow_39 : decode cX4_mindFollowsRow 39 = .ok (.invokevirtual 184, 3) := by decide +kernel
theorem dX4_mindFollowsRow_42 : decode cX4_mindFollowsRow 42 = .ok (.iinc 1 1, 3) := by decide +kernel
theorem dX4_mindFollowsRow_45 : decode cX4_mindFollowsRow 45 = .ok (.goto (-43), 3) := by decide +kernel
theorem dX4_mindFollowsRow_48 : decode cX4_mindFollowsRow 48 = .ok (.iconst 1, 1) := by decide +kernel
theorem dX4_mindFollowsRow_49 : decode cX4_mindFollowsRow 49 = .ok (.ireturn, 1) := by decide +kernel
theorem dX4_firstWrongInRow_0 : decode cX4_firstWrongInRow 0 = .ok (.iconst 0, 1) := by decide +kernel
theorem dX4_firstWrongInRow_1 : decode cX4_firstWrongInRow 1 = .ok (.istore_n 1, 1) := by decide +kernel
theorem dX4_firstWrongInRow_2 : decode cX4_firstWrongInRow 2 = .ok (.iload_n 1, 1) := by decide +kernel
theorem dX4_firstWrongInRow_3 : decode cX4_firstWrongInRow 3 = .ok (.aload_n 0, 1) := by decide +kernel
theorem dX4_firstWrongInRow_4 : decode cX4_firstWrongInRow 4 = .ok (.getfield 251, 3) := by decide +kernel
theorem dX4_firstWrongInRow_7 : decode cX4_firstWrongInRow 7 = .ok (.if_icmp .ge 43, 3) := by decide +kernel
theorem dX4_firstWrongInRow_10 : decode cX4_firstWrongInRow 10 = .ok (.aload_n 0, 1) := by decide +kernel
theorem dX4_firstWrongInRow_11 : decode cX4_firstWrongInRow 11 = .ok (.getfield 12, 3) := by decide +kernel
theorem dX4_firstWrongInRow_14 : decode cX4_firstWrongInRow 14 = .ok (.iload_n 1, 1) := by decide +kernel
theorem dX4_firstWrongInRow_15 : decode cX4_firstWrongInRow 15 = .ok (.invokevirtual 85, 3) := by decide +kernel
theorem dX4_firstWrongInRow_18 : decode cX4_firstWrongInRow 18 = .ok (.ifCond .eq 24, 3) := by decide +kernel
theorem dX4_firstWrongInRow_21 : decode cX4_firstWrongInRow 21 = .ok (.aload_n 0, 1) := by decide +kernel
theorem dX4_firstWrongInRow_22 : decode cX4_firstWrongInRow 22 = .ok (.getfield 12, 3) := by decide +kernel
theorem dX4_firstWrongInRow_25 : decode cX4_firstWrongInRow 25 = .ok (.getfield 89, 3) := by decide +kernel
theorem dX4_firstWrongInRow_28 : decode cX4_firstWrongInRow 28 = .ok (.iload_n 1, 1) := by decide +kernel
theorem dX4_firstWrongInRow_29 : decode cX4_firstWrongInRow 29 = .ok (.aaload, 1) := by decide +kernel
theorem dX4_firstWrongInRow_30 : decode cX4_firstWrongInRow 30 = .ok (.getfield 106, 3) := by decide +kernel
theorem dX4_firstWrongInRow_33 : decode cX4_firstWrongInRow 33 = .ok (.aload_n 0, 1) := by decide +kernel
theorem dX4_firstWrongInRow_34 : decode cX4_firstWrongInRow 34 = .ok (.getfield 46, 3) := by decide +kernel
theorem dX4_firstWrongInRow_37 : decode cX4_firstWrongInRow 37 = .ok (.iload_n 1, 1) := by decide +kernel
theorem dX4_firstWrongInRow_38 : decode cX4_firstWrongInRow 38 = .ok (.iaload, 1) := by decide +kernel
theorem dX4_firstWrongInRow_39 : decode cX4_firstWrongInRow 39 = .ok (.if_icmp .eq 5, 3) := by decide +kernel
theorem dX4_firstWrongInRow_42 : decode cX4_firstWrongInRow 42 = .ok (.iload_n 1, 1) := by decide +kernel
theorem dX4_firstWrongInRow_43 : decode cX4_firstWrongInRow 43 = .ok (.ireturn, 1) := by decide +kernel
theorem dX4_firstWrongInRow_44 : decode cX4_firstWrongInRow 44 = .ok (.iinc 1 1, 3) := by decide +kernel
theorem dX4_firstWrongInRow_47 : decode cX4_firstWrongInRow 47 = .ok (.goto (-45), 3) := by decide +kernel
theorem dX4_firstWrongInRow_50 : decode cX4_firstWrongInRow 50 = .ok (.bipush (-9), 2) := by decide +kernel
theorem dX4_firstWrongInRow_52 : decode cX4_firstWrongInRow 52 = .ok (.ireturn, 1) := by decide +kernel
theorem dX4_partOfFraction_0 : decode cX4_partOfFraction 0 = .ok (.lload_n 0, 1) := by decide +kernel
theorem dX4_partOfFraction_1 : decode cX4_partOfFraction 1 = .ok (.lconst 0, 1) := by decide +kernel
theorem dX4_partOfFraction_2 : decode cX4_partOfFraction 2 = .ok (.lcmp, 1) := by decide +kernel
theorem dX4_partOfFraction_3 : decode cX4_partOfFraction 3 = .ok (.ifCond .le 9, 3) := by decide +kernel
theorem dX4_partOfFraction_6 : decode cX4_partOfFraction 6 = .ok (.lload_n 2, 1) := by decide +kernel
theorem dX4_partOfFraction_7 : decode cX4_partOfFraction 7 = .ok (.lconst 0, 1) := by decide +kernel
theorem dX4_partOfFraction_8 : decode cX4_partOfFraction 8 = .ok (.lcmp, 1) := by decide +kernel
theorem dX4_partOfFraction_9 : decode cX4_partOfFraction 9 = .ok (.ifCond .gt 14, 3) := by decide +kernel
theorem dX4_partOfFraction_12 : decode cX4_partOfFraction 12 = .ok (.iload 4, 2) := by decide +kernel
theorem dX4_partOfFraction_14 : decode cX4_partOfFraction 14 = .ok (.ifCond .ne 7, 3) := by decide +kernel
theorem dX4_partOfFraction_17 : decode cX4_partOfFraction 17 = .ok (.lconst 0, 1) := by decide +kernel
theorem dX4_partOfFraction_18 : decode cX4_partOfFraction 18 = .ok (.goto 4, 3) := by decide +kernel
theorem dX4_partOfFraction_21 : decode cX4_partOfFraction 21 = .ok (.lconst 1, 1) := by decide +kernel
theorem dX4_partOfFraction_22 : decode cX4_partOfFraction 22 = .ok (.lreturn, 1) := by decide +kernel
theorem dX4_partOfFraction_23 : decode cX4_partOfFraction 23 = .ok (.lload_n 0, 1) := by decide +kernel
theorem dX4_partOfFraction_24 : decode cX4_partOfFraction 24 = .ok (.lload_n 2, 1) := by decide +kernel
theorem dX4_partOfFraction_25 : decode cX4_partOfFraction 25 = .ok (.invokestatic 302, 3) := by decide +kernel
theorem dX4_partOfFraction_28 : decode cX4_partOfFraction 28 = .ok (.lstore 5, 2) := by decide +kernel
theorem dX4_partOfFraction_30 : decode cX4_partOfFraction 30 = .ok (.iload 4, 2) := by decide +kernel
theorem dX4_partOfFraction_32 : decode cX4_partOfFraction 32 = .ok (.ifCond .ne 7, 3) := by decide +kernel
theorem dX4_partOfFraction_35 : decode cX4_partOfFraction 35 = .ok (.lload_n 0, 1) := by decide +kernel
theorem dX4_partOfFraction_36 : decode cX4_partOfFraction 36 = .ok (.goto 4, 3) := by decide +kernel
theorem dX4_partOfFraction_39 : decode cX4_partOfFraction 39 = .ok (.lload_n 2, 1) := by decide +kernel
theorem dX4_partOfFraction_40 : decode cX4_partOfFraction 40 = .ok (.lload 5, 2) := by decide +kernel
theorem dX4_partOfFraction_42 : decode cX4_partOfFraction 42 = .ok (.ldiv, 1) := by decide +kernel
theorem dX4_partOfFraction_43 : decode cX4_partOfFraction 43 = .ok (.lreturn, 1) := by decide +kernel
theorem dX4_greatestDivisor_0 : decode cX4_greatestDivisor 0 = .ok (.lload_n 0, 1) := by decide +kernel
theorem dX4_greatestDivisor_1 : decode cX4_greatestDivisor 1 = .ok (.lstore 4, 2) := by decide +kernel
theorem dX4_greatestDivisor_3 : decode cX4_greatestDivisor 3 = .ok (.lload_n 2, 1) := by decide +kernel
theorem dX4_greatestDivisor_4 : decode cX4_greatestDivisor 4 = .ok (.lstore 6, 2) := by decide +kernel
theorem dX4_greatestDivisor_6 : decode cX4_greatestDivisor 6 = .ok (.iconst 0, 1) := by decide +kernel
theorem dX4_greatestDivisor_7 : decode cX4_greatestDivisor 7 = .ok (.istore 8, 2) := by decide +kernel
theorem dX4_greatestDivisor_9 : decode cX4_greatestDivisor 9 = .ok (.iload 8, 2) := by decide +kernel
theorem dX4_greatestDivisor_11 : decode cX4_greatestDivisor 11 = .ok (.sipush 128, 3) := by decide +kernel
theorem dX4_greatestDivisor_14 : decode cX4_greatestDivisor 14 = .ok (.if_icmp .ge 31, 3) := by decide +kernel
theorem dX4_greatestDivisor_17 : decode cX4_greatestDivisor 17 = .ok (.lload 6, 2) := by decide +kernel
theorem dX4_greatestDivisor_19 : decode cX4_greatestDivisor 19 = .ok (.lconst 0, 1) := by decide +kernel
theorem dX4_greatestDivisor_20 : decode cX4_greatestDivisor 20 = .ok (.lcmp, 1) := by decide +kernel
theorem dX4_greatestDivisor_21 : decode cX4_greatestDivisor 21 = .ok (.ifCond .le 24, 3) := by decide +kernel
theorem dX4_greatestDivisor_24 : decode cX4_greatestDivisor 24 = .ok (.lload 4, 2) := by decide +kernel
theorem dX4_greatestDivisor_26 : decode cX4_greatestDivisor 26 = .ok (.lload 6, 2) := by decide +kernel
theorem dX4_greatestDivisor_28 : decode cX4_greatestDivisor 28 = .ok (.lrem, 1) := by decide +kernel
theorem dX4_greatestDivisor_29 : decode cX4_greatestDivisor 29 = .ok (.lstore 9, 2) := by decide +kernel
theorem dX4_greatestDivisor_31 : decode cX4_greatestDivisor 31 = .ok (.lload 6, 2) := by decide +kernel
theorem dX4_greatestDivisor_33 : decode cX4_greatestDivisor 33 = .ok (.lstore 4, 2) := by decide +kernel
theorem dX4_greatestDivisor_35 : decode cX4_greatestDivisor 35 = .ok (.lload 9, 2) := by decide +kernel
theorem dX4_greatestDivisor_37 : decode cX4_greatestDivisor 37 = .ok (.lstore 6, 2) := by decide +kernel
theorem dX4_greatestDivisor_39 : decode cX4_greatestDivisor 39 = .ok (.iinc 8 1, 3) := by decide +kernel
theorem dX4_greatestDivisor_42 : decode cX4_greatestDivisor 42 = .ok (.goto (-33), 3) := by decide +kernel
theorem dX4_greatestDivisor_45 : decode cX4_greatestDivisor 45 = .ok (.lload 4, 2) := by decide +kernel
theorem dX4_greatestDivisor_47 : decode cX4_greatestDivisor 47 = .ok (.lconst 0, 1) := by decide +kernel
theorem dX4_greatestDivisor_48 : decode cX4_greatestDivisor 48 = .ok (.lcmp, 1) := by decide +kernel
theorem dX4_greatestDivisor_49 : decode cX4_greatestDivisor 49 = .ok (.ifCond .le 8, 3) := by decide +kernel
theorem dX4_greatestDivisor_52 : decode cX4_greatestDivisor 52 = .ok (.lload 4, 2) := by decide +kernel
theorem dX4_greatestDivisor_54 : decode cX4_greatestDivisor 54 = .ok (.goto 4, 3) := by decide +kernel
theorem dX4_greatestDivisor_57 : decode cX4_greatestDivisor 57 = .ok (.lconst 1, 1) := by decide +kernel
theorem dX4_greatestDivisor_58 : decode cX4_greatestDivisor 58 = .ok (.lreturn, 1) := by decide +kernel
theorem dX4_nextSeed_0 : decode cX4_nextSeed 0 = .ok (.iload_n 0, 1) := by decide +kernel
theorem dX4_nextSeed_1 : decode cX4_nextSeed 1 = .ok (.ldc_w 306, 3) := by decide +kernel
theorem dX4_nextSeed_4 : decode cX4_nextSeed 4 = .ok (.imul, 1) := by decide +kernel
theorem dX4_nextSeed_5 : decode cX4_nextSeed 5 = .ok (.ldc_w 307, 3) := by decide +kernel
theorem dX4_nextSeed_8 : decode cX4_nextSeed 8 = .ok (.iadd, 1) := by decide +kernel
theorem dX4_nextSeed_9 : decode cX4_nextSeed 9 = .ok (.ireturn, 1) := by decide +kernel
theorem dX4_drawn_0 : decode cX4_drawn 0 = .ok (.iload_n 1, 1) := by decide +kernel
theorem dX4_drawn_1 : decode cX4_drawn 1 = .ok (.ifCond .le 17, 3) := by decide +kernel
theorem dX4_drawn_4 : decode cX4_drawn 4 = .ok (.iload_n 0, 1) := by decide +kernel
theorem dX4_drawn_5 : decode cX4_drawn 5 = .ok (.ldc_w 308, 3) := by decide +kernel
theorem dX4_drawn_8 : decode cX4_drawn 8 = .ok (.iand, 1) := by decide +kernel
theorem dX4_drawn_9 : decode cX4_drawn 9 = .ok (.sipush 256, 3) := by decide +kernel
theorem dX4_drawn_12 : decode cX4_drawn 12 = .ok (.idiv, 1) := by decide +kernel
theorem dX4_drawn_13 : decode cX4_drawn 13 = .ok (.iload_n 1, 1) := by decide +kernel
theorem dX4_drawn_14 : decode cX4_drawn 14 = .ok (.irem, 1) := by decide +kernel
theorem dX4_drawn_15 : decode cX4_drawn 15 = .ok (.goto 4, 3) := by decide +kernel
theorem dX4_drawn_18 : decode cX4_drawn 18 = .ok (.iconst 0, 1) := by decide +kernel
theorem dX4_drawn_19 : decode cX4_drawn 19 = .ok (.ireturn, 1) := by decide +kernel
theorem dX4_shoesOfKind_0 : decode cX4_shoesOfKind 0 = .ok (.iload_n 0, 1) := by decide +kernel
theorem dX4_shoesOfKind_1 : decode cX4_shoesOfKind 1 = .ok (.tableswitch 49 0 5 #[39, 41, 43, 49, 45, 47], 39) := by decide +kernel
theorem dX4_shoesOfKind_40 : decode cX4_shoesOfKind 40 = .ok (.iconst 4, 1) := by decide +kernel
theorem dX4_shoesOfKind_41 : decode cX4_shoesOfKind 41 = .ok (.ireturn, 1) := by decide +kernel
theorem dX4_shoesOfKind_42 : decode cX4_shoesOfKind 42 = .ok (.iconst 1, 1) := by decide +kernel
theorem dX4_shoesOfKind_43 : decode cX4_shoesOfKind 43 = .ok (.ireturn, 1) := by decide +kernel
theorem dX4_shoesOfKind_44 : decode cX4_shoesOfKind 44 = .ok (.iconst 3, 1) := by decide +kernel
theorem dX4_shoesOfKind_45 : decode cX4_shoesOfKind 45 = .ok (.ireturn, 1) := by decide +kernel
theorem dX4_shoesOfKind_46 : decode cX4_shoesOfKind 46 = .ok (.iconst 2, 1) := by decide +kernel
theorem dX4_shoesOfKind_47 : decode cX4_shoesOfKind 47 = .ok (.ireturn, 1) := by decide +kernel
theorem dX4_shoesOfKind_48 : decode cX4_shoesOfKind 48 = .ok (.iconst 3, 1) := by decide +kernel
theorem dX4_shoesOfKind_49 : decode cX4_shoesOfKind 49 = .ok (.ireturn, 1) := by decide +kernel
theorem dX4_shoesOfKind_50 : decode cX4_shoesOfKind 50 = .ok (.iconst 0, 1) := by decide +kernel
theorem dX4_shoesOfKind_51 : decode cX4_shoesOfKind 51 = .ok (.ireturn, 1) := by decide +kernel
theorem dX4_daysOfKind_0 : decode cX4_daysOfKind 0 = .ok (.iload_n 1, 1) := by decide +kernel
theorem dX4_daysOfKind_1 : decode cX4_daysOfKind 1 = .ok (.iconst 3, 1) := by decide +kernel
theorem dX4_daysOfKind_2 : decode cX4_daysOfKind 2 = .ok (.idiv, 1) := by decide +kernel
theorem dX4_daysOfKind_3 : decode cX4_daysOfKind 3 = .ok (.iconst 1, 1) := by decide +kernel
theorem dX4_daysOfKind_4 : decode cX4_daysOfKind 4 = .ok (.iadd, 1) := by decide +kernel
theorem dX4_daysOfKind_5 : decode cX4_daysOfKind 5 = .ok (.istore_n 2, 1) := by decide +kernel
theorem dX4_daysOfKind_6 : decode cX4_daysOfKind 6 = .ok (.iload_n 2, 1) := by decide +kernel
theorem dX4_daysOfKind_7 : decode cX4_daysOfKind 7 = .ok (.iconst 2, 1) := by decide +kernel
theorem dX4_daysOfKind_8 : decode cX4_daysOfKind 8 = .ok (.idiv, 1) := by decide +kernel
theorem dX4_daysOfKind_9 : decode cX4_daysOfKind 9 = .ok (.iconst 1, 1) := by decide +kernel
theorem dX4_daysOfKind_10 : decode cX4_daysOfKind 10 = .ok (.iadd, 1) := by decide +kernel
theorem dX4_daysOfKind_11 : decode cX4_daysOfKind 11 = .ok (.istore_n 3, 1) := by decide +kernel
theorem dX4_daysOfKind_12 : decode cX4_daysOfKind 12 = .ok (.iload_n 0, 1) := by decide +kernel
theorem dX4_daysOfKind_13 : decode cX4_daysOfKind 13 = .ok (.tableswitch 53 0 5 #[39, 41, 43, 53, 45, 49], 39) := by decide +kernel
theorem dX4_daysOfKind_52 : decode cX4_daysOfKind 52 = .ok (.iload_n 2, 1) := by decide +kernel
theorem dX4_daysOfKind_53 : decode cX4_daysOfKind 53 = .ok (.ireturn, 1) := by decide +kernel
theorem dX4_daysOfKind_54 : decode cX4_daysOfKind 54 = .ok (.iload_n 2, 1) := by decide +kernel
theorem dX4_daysOfKind_55 : decode cX4_daysOfKind 55 = .ok (.ireturn, 1) := by decide +kernel
theorem dX4_daysOfKind_56 : decode cX4_daysOfKind 56 = .ok (.iload_n 3, 1) := by decide +kernel
theorem dX4_daysOfKind_57 : decode cX4_daysOfKind 57 = .ok (.ireturn, 1) := by decide +kernel
theorem dX4_daysOfKind_58 : decode cX4_daysOfKind 58 = .ok (.iconst 2, 1) := by decide +kernel
theorem dX4_daysOfKind_59 : decode cX4_daysOfKind 59 = .ok (.iload_n 2, 1) := by decide +kernel
theorem dX4_daysOfKind_60 : decode cX4_daysOfKind 60 = .ok (.imul, 1) := by decide +kernel
theorem dX4_daysOfKind_61 : decode cX4_daysOfKind 61 = .ok (.ireturn, 1) := by decide +kernel
theorem dX4_daysOfKind_62 : decode cX4_daysOfKind 62 = .ok (.iload_n 3, 1) := by decide +kernel
theorem dX4_daysOfKind_63 : decode cX4_daysOfKind 63 = .ok (.iconst 1, 1) := by decide +kernel
theorem dX4_daysOfKind_64 : decode cX4_daysOfKind 64 = .ok (.iadd, 1) := by decide +kernel
theorem dX4_daysOfKind_65 : decode cX4_daysOfKind 65 = .ok (.ireturn, 1) := by decide +kernel
theorem dX4_daysOfKind_66 : decode cX4_daysOfKind 66 = .ok (.iconst 0, 1) := by decide +kernel
theorem dX4_daysOfKind_67 : decode cX4_daysOfKind 67 = .ok (.ireturn, 1) := by decide +kernel
theorem dX4_kindOfLetter_0 : decode cX4_kindOfLetter 0 = .ok (.iload_n 0, 1) := by decide +kernel
theorem dX4_kindOfLetter_1 : decode cX4_kindOfLetter 1 = .ok (.lookupswitch 71 #[(98, 61), (109, 65), (112, 67), (114, 59), (117, 63), (120, 69)], 59) := by decide +kernel
theorem dX4_kindOfLetter_60 : decode cX4_kindOfLetter 60 = .ok (.iconst 0, 1) := by decide +kernel
theorem dX4_kindOfLetter_61 : decode cX4_kindOfLetter 61 = .ok (.ireturn, 1) := by decide +kernel
theorem dX4_kindOfLetter_62 : decode cX4_kindOfLetter 62 = .ok (.iconst 1, 1) := by decide +kernel
theorem dX4_kindOfLetter_63 : decode cX4_kindOfLetter 63 = .ok (.ireturn, 1) := by decide +kernel
theorem dX4_kindOfLetter_64 : decode cX4_kindOfLetter 64 = .ok (.iconst 2, 1) := by decide +kernel
theorem dX4_kindOfLetter_65 : decode cX4_kindOfLetter 65 = .ok (.ireturn, 1) := by decide +kernel
theorem dX4_kindOfLetter_66 : decode cX4_kindOfLetter 66 = .ok (.iconst 3, 1) := by decide +kernel
theorem dX4_kindOfLetter_67 : decode cX4_kindOfLetter 67 = .ok (.ireturn, 1) := by decide +kernel
theorem dX4_kindOfLetter_68 : decode cX4_kindOfLetter 68 = .ok (.iconst 4, 1) := by decide +kernel
theorem dX4_kindOfLetter_69 : decode cX4_kindOfLetter 69 = .ok (.ireturn, 1) := by decide +kernel
theorem dX4_kindOfLetter_70 : decode cX4_kindOfLetter 70 = .ok (.iconst 5, 1) := by decide +kernel
theorem dX4_kindOfLetter_71 : decode cX4_kindOfLetter 71 = .ok (.ireturn, 1) := by decide +kernel
theorem dX4_kindOfLetter_72 : decode cX4_kindOfLetter 72 = .ok (.bipush (-9), 2) := by decide +kernel
theorem dX4_kindOfLetter_74 : decode cX4_kindOfLetter 74 = .ok (.ireturn, 1) := by decide +kernel
