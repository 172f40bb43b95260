theorem dX5_init_0 : decode cX5_init 0 = .ok (.aload_n 0, 1) := by decide +kernel
theorem dX5_init_1 : decode cX5_init 1 = .ok (.invokespecial 1, 3) := by decide +kernel
theorem dX5_init_4 : decode cX5_init 4 = .ok (.aload_n 0, 1) := by decide +kernel
theorem dX5_init_5 : decode cX5_init 5 = .ok (.bipush 52, 2) := by decide +kernel
theorem dX5_init_7 : decode cX5_init 7 = .ok (.newarray .int, 2) := by decide +kernel
theorem dX5_init_9 : decode cX5_init 9 = .ok (.putfield 9, 3) := by decide +kernel
theorem dX5_init_12 : decode cX5_init 12 = .ok (.aload_n 0, 1) := by decide +kernel
theorem dX5_init_13 : decode cX5_init 13 = .ok (.bipush 52, 2) := by decide +kernel
theorem dX5_init_15 : decode cX5_init 15 = .ok (.newarray .int, 2) := by decide +kernel
theorem dX5_init_17 : decode cX5_init 17 = .ok (.putfield 13, 3) := by decide +kernel
theorem dX5_init_20 : decode cX5_init 20 = .ok (.aload_n 0, 1) := by decide +kernel
theorem dX5_init_21 : decode cX5_init 21 = .ok (.bipush 52, 2) := by decide +kernel
theorem dX5_init_23 : decode cX5_init 23 = .ok (.newarray .int, 2) := by decide +kernel
theorem dX5_init_25 : decode cX5_init 25 = .ok (.putfield 16, 3) := by decide +kernel
theorem dX5_init_28 : decode cX5_init 28 = .ok (.aload_n 0, 1) := by decide +kernel
theorem dX5_init_29 : decode cX5_init 29 = .ok (.bipush 52, 2) := by decide +kernel
theorem dX5_init_31 : decode cX5_init 31 = .ok (.newarray .int, 2) := by decide +kernel
theorem dX5_init_33 : decode cX5_init 33 = .ok (.putfield 19, 3) := by decide +kernel
theorem dX5_init_36 : decode cX5_init 36 = .ok (.aload_n 0, 1) := by decide +kernel
theorem dX5_init_37 : decode cX5_init 37 = .ok (.bipush 64, 2) := by decide +kernel
theorem dX5_init_39 : decode cX5_init 39 = .ok (.newarray .int, 2) := by decide +kernel
theorem dX5_init_41 : decode cX5_init 41 = .ok (.putfield 22, 3) := by decide +kernel
theorem dX5_init_44 : decode cX5_init 44 = .ok (.aload_n 0, 1) := by decide +kernel
theorem dX5_init_45 : decode cX5_init 45 = .ok (.bipush 96, 2) := by decide +kernel
theorem dX5_init_47 : decode cX5_init 47 = .ok (.newarray .int, 2) := by decide +kernel
theorem dX5_init_49 : decode cX5_init 49 = .ok (.putfield 25, 3) := by decide +kernel
theorem dX5_init_52 : decode cX5_init 52 = .ok (.aload_n 0, 1) := by decide +kernel
theorem dX5_init_53 : decode cX5_init 53 = .ok (.bipush 16, 2) := by decide +kernel
theorem dX5_init_55 : decode cX5_init 55 = .ok (.newarray .int, 2) := by decide +kernel
theorem dX5_init_57 : decode cX5_init 57 = .ok (.putfield 28, 3) := by decide +kernel
theorem dX5_init_60 : decode cX5_init 60 = .ok (.aload_n 0, 1) := by decide +kernel
theorem dX5_init_61 : decode cX5_init 61 = .ok (.bipush 7, 2) := by decide +kernel
theorem dX5_init_63 : decode cX5_init 63 = .ok (.newarray .int, 2) := by decide +kernel
theorem dX5_init_65 : decode cX5_init 65 = .ok (.putfield 31, 3) := by decide +kernel
theorem dX5_init_68 : decode cX5_init 68 = .ok (.aload_n 0, 1) := by decide +kernel
theorem dX5_init_69 : decode cX5_init 69 = .ok (.iconst 5, 1) := by decide +kernel
theorem dX5_init_70 : decode cX5_init 70 = .ok (.newarray .int, 2) := by decide +kernel
theorem dX5_init_72 : decode cX5_init 72 = .ok (.putfield 34, 3) := by decide +kernel
theorem dX5_init_75 : decode cX5_init 75 = .ok (.aload_n 0, 1) := by decide +kernel
theorem dX5_init_76 : decode cX5_init 76 = .ok (.bipush 8, 2) := by decide +kernel
theorem dX5_init_78 : decode cX5_init 78 = .ok (.newarray .int, 2) := by decide +kernel
theorem dX5_init_80 : decode cX5_init 80 = .ok (.putfield 37, 3) := by decide +kernel
theorem dX5_init_83 : decode cX5_init 83 = .ok (.return_, 1) := by decide +kernel
theorem dX5_isIn_0 : decode cX5_isIn 0 = .ok (.iload_n 0, 1) := by decide +kernel
theorem dX5_isIn_1 : decode cX5_isIn 1 = .ok (.iload_n 1, 1) := by decide +kernel
theorem dX5_isIn_2 : decode cX5_isIn 2 = .ok (.if_icmp .lt 12, 3) := by decide +kernel
theorem dX5_isIn_5 : decode cX5_isIn 5 = .ok (.iload_n 0, 1) := by decide +kernel
theorem dX5_isIn_6 : decode cX5_isIn 6 = .ok (.iload_n 2, 1) := by decide +kernel
theorem dX5_isIn_7 : decode cX5_isIn 7 = .ok (.if_icmp .gt 7, 3) := by decide +kernel
theorem dX5_isIn_10 : decode cX5_isIn 10 = .ok (.iconst 1, 1) := by decide +kernel
theorem dX5_isIn_11 : decode cX5_isIn 11 = .ok (.goto 4, 3) := by decide +kernel
theorem dX5_isIn_14 : decode cX5_isIn 14 = .ok (.iconst 0, 1) := by decide +kernel
theorem dX5_isIn_15 : decode cX5_isIn 15 = .ok (.ireturn, 1) := by decide +kernel
theorem dX5_least_0 : decode cX5_least 0 = .ok (.iload_n 0, 1) := by decide +kernel
theorem dX5_least_1 : decode cX5_least 1 = .ok (.iload_n 1, 1) := by decide +kernel
theorem dX5_least_2 : decode cX5_least 2 = .ok (.if_icmp .ge 7, 3) := by decide +kernel
theorem dX5_least_5 : decode cX5_least 5 = .ok (.iload_n 0, 1) := by decide +kernel
theorem dX5_least_6 : decode cX5_least 6 = .ok (.goto 4, 3) := by decide +kernel
theorem dX5_least_9 : decode cX5_least 9 = .ok (.iload_n 1, 1) := by decide +kernel
theorem dX5_least_10 : decode cX5_least 10 = .ok (.ireturn, 1) := by decide +kernel
theorem dX5_copies_0 : decode cX5_copies 0 = .ok (.iconst 0, 1) := by decide +kernel
theorem dX5_copies_1 : decode cX5_copies 1 = .ok (.istore_n 2, 1) := by decide +kernel
theorem dX5_copies_2 : decode cX5_copies 2 = .ok (.iload_n 2, 1) := by decide +kernel
theorem dX5_copies_3 : decode cX5_copies 3 = .ok (.bipush 52, 2) := by decide +kernel
theorem dX5_copies_5 : decode cX5_copies 5 = .ok (.if_icmp .ge 15, 3) := by decide +kernel
theorem dX5_copies_8 : decode cX5_copies 8 = .ok (.aload_n 1, 1) := by decide +kernel
theorem dX5_copies_9 : decode cX5_copies 9 = .ok (.iload_n 2, 1) := by decide +kernel
theorem dX5_copies_10 : decode cX5_copies 10 = .ok (.aload_n 0, 1) := by decide +kernel
theorem dX5_copies_11 : decode cX5_copies 11 = .ok (.iload_n 2, 1) := by decide +kernel
theorem dX5_copies_12 : decode cX5_copies 12 = .ok (.iaload, 1) := by decide +kernel
theorem dX5_copies_13 : decode cX5_copies 13 = .ok (.iastore, 1) := by decide +kernel
theorem dX5_copies_14 : decode cX5_copies 14 = .ok (.iinc 2 1, 3) := by decide +kernel
theorem dX5_copies_17 : decode cX5_copies 17 = .ok (.goto (-15), 3) := by decide +kernel
theorem dX5_copies_20 : decode cX5_copies 20 = .ok (.return_, 1) := by decide +kernel
theorem dX5_no_0 : decode cX5_no 0 = .ok (.aload_n 0, 1) := by decide +kernel
theorem dX5_no_1 : decode cX5_no 1 = .ok (.getfield 31, 3) := by decide +kernel
theorem dX5_no_4 : decode cX5_no 4 = .ok (.iload_n 1, 1) := by decide +kernel
theorem dX5_no_5 : decode cX5_no 5 = .ok (.ineg, 1) := by decide +kernel
theorem dX5_no_6 : decode cX5_no 6 = .ok (.dup2, 1) := by decide +kernel
theorem dX5_no_7 : decode cX5_no 7 = .ok (.iaload, 1) := by decide +kernel
theorem dX5_no_8 : decode cX5_no 8 = .ok (.iconst 1, 1) := by decide +kernel
theorem dX5_no_9 : decode cX5_no 9 = .ok (.iadd, 1) := by decide +kernel
theorem dX5_no_10 : decode cX5_no 10 = .ok (.iastore, 1) := by decide +kernel
theorem dX5_no_11 : decode cX5_no 11 = .ok (.iload_n 1, 1) := by decide +kernel
theorem dX5_no_12 : decode cX5_no 12 = .ok (.ireturn, 1) := by decide +kernel
theorem dX5_noWide_0 : decode cX5_noWide 0 = .ok (.ldc2_w 40, 3) := by decide +kernel
theorem dX5_noWide_3 : decode cX5_noWide 3 = .ok (.aload_n 0, 1) := by decide +kernel
theorem dX5_noWide_4 : decode cX5_noWide 4 = .ok (.iload_n 1, 1) := by decide +kernel
theorem dX5_noWide_5 : decode cX5_noWide 5 = .ok (.invokevirtual 42, 3) := by decide +kernel
theorem dX5_noWide_8 : decode cX5_noWide 8 = .ok (.i2l, 1) := by decide +kernel
theorem dX5_noWide_9 : decode cX5_noWide 9 = .ok (.lsub, 1) := by decide +kernel
theorem dX5_noWide_10 : decode cX5_noWide 10 = .ok (.lreturn, 1) := by decide +kernel
theorem dX5_of_0 : decode cX5_of 0 = .ok (.bipush 10, 2) := by decide +kernel
theorem dX5_of_2 : decode cX5_of 2 = .ok (.bipush 7, 2) := by decide +kernel
theorem dX5_of_4 : decode cX5_of 4 = .ok (.iload_n 0, 1) := by decide +kernel
theorem dX5_of_5 : decode cX5_of 5 = .ok (.imul, 1) := by decide +kernel
theorem dX5_of_6 : decode cX5_of 6 = .ok (.iadd, 1) := by decide +kernel
theorem dX5_of_7 : decode cX5_of 7 = .ok (.iload_n 1, 1) := by decide +kernel
theorem dX5_of_8 : decode cX5_of 8 = .ok (.iadd, 1) := by decide +kernel
theorem dX5_of_9 : decode cX5_of 9 = .ok (.ireturn, 1) := by decide +kernel
theorem dX5_isRider_0 : decode cX5_isRider 0 = .ok (.iload_n 1, 1) := by decide +kernel
theorem dX5_isRider_1 : decode cX5_isRider 1 = .ok (.iconst 0, 1) := by decide +kernel
theorem dX5_isRider_2 : decode cX5_isRider 2 = .ok (.aload_n 0, 1) := by decide +kernel
theorem dX5_isRider_3 : decode cX5_isRider 3 = .ok (.getfield 9, 3) := by decide +kernel
theorem dX5_isRider_6 : decode cX5_isRider 6 = .ok (.iconst 0, 1) := by decide +kernel
theorem dX5_isRider_7 : decode cX5_isRider 7 = .ok (.iaload, 1) := by decide +kernel
theorem dX5_isRider_8 : decode cX5_isRider 8 = .ok (.iconst 1, 1) := by decide +kernel
theorem dX5_isRider_9 : decode cX5_isRider 9 = .ok (.isub, 1) := by decide +kernel
theorem dX5_isRider_10 : decode cX5_isRider 10 = .ok (.invokestatic 46, 3) := by decide +kernel
theorem dX5_isRider_13 : decode cX5_isRider 13 = .ok (.ireturn, 1) := by decide +kernel
theorem dX5_isPlace_0 : decode cX5_isPlace 0 = .ok (.iload_n 0, 1) := by decide +kernel
theorem dX5_isPlace_1 : decode cX5_isPlace 1 = .ok (.iconst 0, 1) := by decide +kernel
theorem dX5_isPlace_2 : decode cX5_isPlace 2 = .ok (.bipush 7, 2) := by decide +kernel
theorem dX5_isPlace_4 : decode cX5_isPlace 4 = .ok (.invokestatic 46, 3) := by decide +kernel
theorem dX5_isPlace_7 : decode cX5_isPlace 7 = .ok (.ireturn, 1) := by decide +kernel
theorem dX5_has_0 : decode cX5_has 0 = .ok (.iload_n 0, 1) := by decide +kernel
theorem dX5_has_1 : decode cX5_has 1 = .ok (.iload_n 1, 1) := by decide +kernel
theorem dX5_has_2 : decode cX5_has 2 = .ok (.ishr, 1) := by decide +kernel
theorem dX5_has_3 : decode cX5_has 3 = .ok (.iconst 1, 1) := by decide +kernel
theorem dX5_has_4 : decode cX5_has 4 = .ok (.iand, 1) := by decide +kernel
theorem dX5_has_5 : decode cX5_has 5 = .ok (.iconst 1, 1) := by decide +kernel
theorem dX5_has_6 : decode cX5_has 6 = .ok (.if_icmp .ne 7, 3) := by decide +kernel
theorem dX5_has_9 : decode cX5_has 9 = .ok (.iconst 1, 1) := by decide +kernel
theorem dX5_has_10 : decode cX5_has 10 = .ok (.goto 4, 3) := by decide +kernel
theorem dX5_has_13 : decode cX5_has 13 = .ok (.iconst 0, 1) := by decide +kernel
theorem dX5_has_14 : decode cX5_has 14 = .ok (.ireturn, 1) := by decide +kernel
theorem dX5_bits_0 : decode cX5_bits 0 = .ok (.iconst 0, 1) := by decide +kernel
theorem dX5_bits_1 : decode cX5_bits 1 = .ok (.istore_n 1, 1) := by decide +kernel
theorem dX5_bits_2 : decode cX5_bits 2 = .ok (.iconst 0, 1) := by decide +kernel
theorem dX5_bits_3 : decode cX5_bits 3 = .ok (.istore_n 2, 1) := by decide +kernel
theorem dX5_bits_4 : decode cX5_bits 4 = .ok (.iload_n 2, 1) := by decide +kernel
theorem dX5_bits_5 : decode cX5_bits 5 = .ok (.bipush 8, 2) := by decide +kernel
theorem dX5_bits_7 : decode cX5_bits 7 = .ok (.if_icmp .ge 17, 3) := by decide +kernel
theorem dX5_bits_10 : decode cX5_bits 10 = .ok (.iload_n 1, 1) := by decide +kernel
theorem dX5_bits_11 : decode cX5_bits 11 = .ok (.iload_n 0, 1) := by decide +kernel
theorem dX5_bits_12 : decode cX5_bits 12 = .ok (.iload_n 2, 1) := by decide +kernel
theorem dX5_bits_13 : decode cX5_bits 13 = .ok (.ishr, 1) := by decide +kernel
theorem dX5_bits_14 : decode cX5_bits 14 = .ok (.iconst 1, 1) := by decide +kernel
theorem dX5_bits_15 : decode cX5_bits 15 = .ok (.iand, 1) := by decide +kernel
theorem dX5_bits_16 : decode cX5_bits 16 = .ok (.iadd, 1) := by decide +kernel
theorem dX5_bits_17 : decode cX5_bits 17 = .ok (.istore_n 1, 1) := by decide +kernel
theorem dX5_bits_18 : decode cX5_bits 18 = .ok (.iinc 2 1, 3) := by decide +kernel
theorem dX5_bits_21 : decode cX5_bits 21 = .ok (.goto (-17), 3) := by decide +kernel
theorem dX5_bits_24 : decode cX5_bits 24 = .ok (.iload_n 1, 1) := by decide +kernel
theorem dX5_bits_25 : decode cX5_bits 25 = .ok (.ireturn, 1) := by decide +kernel
theorem dX5_shoesBy_0 : decode cX5_shoesBy 0 = .ok (.iload_n 0, 1) := by decide +kernel
theorem dX5_shoesBy_1 : decode cX5_shoesBy 1 = .ok (.tableswitch 43 1 5 #[35, 37, 39, 41, 37], 35) := by decide +kernel
theorem dX5_shoesBy_36 : decode cX5_shoesBy 36 = .ok (.iconst 1, 1) := by decide +kernel
theorem dX5_shoesBy_37 : decode cX5_shoesBy 37 = .ok (.ireturn, 1) := by decide +kernel
theorem dX5_shoesBy_38 : decode cX5_shoesBy 38 = .ok (.iconst 3, 1) := by decide +kernel
theorem dX5_shoesBy_39 : decode cX5_shoesBy 39 = .ok (.ireturn, 1) := by decide +kernel
theorem dX5_shoesBy_40 : decode cX5_shoesBy 40 = .ok (.iconst 0, 1) := by decide +kernel
theorem dX5_shoesBy_41 : decode cX5_shoesBy 41 = .ok (.ireturn, 1) := by decide +kernel
theorem dX5_shoesBy_42 : decode cX5_shoesBy 42 = .ok (.iconst 2, 1) := by decide +kernel
theorem dX5_shoesBy_43 : decode cX5_shoesBy 43 = .ok (.ireturn, 1) := by decide +kernel
theorem dX5_shoesBy_44 : decode cX5_shoesBy 44 = .ok (.iconst 4, 1) := by decide +kernel
theorem dX5_shoesBy_45 : decode cX5_shoesBy 45 = .ok (.ireturn, 1) := by decide +kernel
theorem dX5_daysBy_0 : decode cX5_daysBy 0 = .ok (.iload_n 1, 1) := by decide +kernel
theorem dX5_daysBy_1 : decode cX5_daysBy 1 = .ok (.iconst 3, 1) := by decide +kernel
theorem dX5_daysBy_2 : decode cX5_daysBy 2 = .ok (.idiv, 1) := by decide +kernel
theorem dX5_daysBy_3 : decode cX5_daysBy 3 = .ok (.iconst 1, 1) := by decide +kernel
theorem dX5_daysBy_4 : decode cX5_daysBy 4 = .ok (.iadd, 1) := by decide +kernel
theorem dX5_daysBy_5 : decode cX5_daysBy 5 = .ok (.istore_n 2, 1) := by decide +kernel
theorem dX5_daysBy_6 : decode cX5_daysBy 6 = .ok (.iload_n 0, 1) := by decide +kernel
theorem dX5_daysBy_7 : decode cX5_daysBy 7 = .ok (.tableswitch 47 2 5 #[29, 35, 37, 41], 29) := by decide +kernel
theorem dX5_daysBy_36 : decode cX5_daysBy 36 = .ok (.iload_n 2, 1) := by decide +kernel
theorem dX5_daysBy_37 : decode cX5_daysBy 37 = .ok (.iconst 2, 1) := by decide +kernel
theorem dX5_daysBy_38 : decode cX5_daysBy 38 = .ok (.idiv, 1) := by decide +kernel
theorem dX5_daysBy_39 : decode cX5_daysBy 39 = .ok (.iconst 1, 1) := by decide +kernel
theorem dX5_daysBy_40 : decode cX5_daysBy 40 = .ok (.iadd, 1) := by decide +kernel
theorem dX5_daysBy_41 : decode cX5_daysBy 41 = .ok (.ireturn, 1) := by decide +kernel
theorem dX5_daysBy_42 : decode cX5_daysBy 42 = .ok (.iconst 0, 1) := by decide +kernel
theorem dX5_daysBy_43 : decode cX5_daysBy 43 = .ok (.ireturn, 1) := by decide +kernel
theorem dX5_daysBy_44 : decode cX5_daysBy 44 = .ok (.iconst 2, 1) := by decide +kernel
theorem dX5_daysBy_45 : decode cX5_daysBy 45 = .ok (.iload_n 2, 1) := by decide +kernel
theorem dX5_daysBy_46 : decode cX5_daysBy 46 = .ok (.imul, 1) := by decide +kernel
theorem dX5_daysBy_47 : decode cX5_daysBy 47 = .ok (.ireturn, 1) := by decide +kernel
theorem dX5_daysBy_48 : decode cX5_daysBy 48 = .ok (.iload_n 2, 1) := by decide +kernel
theorem dX5_daysBy_49 : decode cX5_daysBy 49 = .ok (.iconst 2, 1) := by decide +kernel
theorem dX5_daysBy_50 : decode cX5_daysBy 50 = .ok (.idiv, 1) := by decide +kernel
theorem dX5_daysBy_51 : decode cX5_daysBy 51 = .ok (.iconst 2, 1) := by decide +kernel
theorem dX5_daysBy_52 : decode cX5_daysBy 52 = .ok (.iadd, 1) := by decide +kernel
theorem dX5_daysBy_53 : decode cX5_daysBy 53 = .ok (.ireturn, 1) := by decide +kernel
theorem dX5_daysBy_54 : decode cX5_daysBy 54 = .ok (.iload_n 2, 1) := by decide +kernel
theorem dX5_daysBy_55 : decode cX5_daysBy 55 = .ok (.ireturn, 1) := by decide +kernel
theorem dX5_measures_0 : decode cX5_measures 0 = .ok (.iconst 0, 1) := by decide +kernel
theorem dX5_measures_1 : decode cX5_measures 1 = .ok (.istore_n 2, 1) := by decide +kernel
theorem dX5_measures_2 : decode cX5_measures 2 = .ok (.iload_n 2, 1) := by decide +kernel
theorem dX5_measures_3 : decode cX5_measures 3 = .ok (.bipush 8, 2) := by decide +kernel
theorem dX5_measures_5 : decode cX5_measures 5 = .ok (.if_icmp .ge 61, 3) := by decide +kernel
theorem dX5_measures_8 : decode cX5_measures 8 = .ok (.iconst 0, 1) := by decide +kernel
theorem dX5_measures_9 : decode cX5_measures 9 = .ok (.istore_n 3, 1) := by decide +kernel
theorem dX5_measures_10 : decode cX5_measures 10 = .ok (.iload_n 3, 1) := by decide +kernel
theorem dX5_measures_11 : decode cX5_measures 11 = .ok (.bipush 8, 2) := by decide +kernel
theorem dX5_measures_13 : decode cX5_measures 13 = .ok (.if_icmp .ge 47, 3) := by decide +kernel
theorem dX5_measures_16 : decode cX5_measures 16 = .ok (.aload_n 0, 1) := by decide +kernel
theorem dX5_measures_17 : decode cX5_measures 17 = .ok (.getfield 22, 3) := by decide +kernel
theorem dX5_measures_20 : decode cX5_measures 20 = .ok (.bipush 8, 2) := by decide +kernel
theorem dX5_measures_22 : decode cX5_measures 22 = .ok (.iload_n 2, 1) := by decide +kernel
theorem dX5_measures_23 : decode cX5_measures 23 = .ok (.imul, 1) := by decide +kernel
theorem dX5_measures_24 : decode cX5_measures 24 = .ok (.iload_n 3, 1) := by decide +kernel
theorem dX5_measures_25 : decode cX5_measures 25 = .ok (.iadd, 1) := by decide +kernel
theorem dX5_measures_26 : decode cX5_measures 26 = .ok (.iload_n 2, 1) := by decide +kernel
theorem dX5_measures_27 : decode cX5_measures 27 = .ok (.iload_n 3, 1) := by decide +kernel
theorem dX5_measures_28 : decode cX5_measures 28 = .ok (.if_icmp .ne 7, 3) := by decide +kernel
theorem dX5_measures_31 : decode cX5_measures 31 = .ok (.iconst 0, 1) := by decide +kernel
theorem dX5_measures_32 : decode cX5_measures 32 = .ok (.goto 21, 3) := by decide +kernel
theorem dX5_measures_35 : decode cX5_measures 35 = .ok (.aload_n 1, 1) := by decide +kernel
theorem dX5_measures_36 : decode cX5_measures 36 = .ok (.iconst 2, 1) := by decide +kernel
theorem dX5_measures_37 : decode cX5_measures 37 = .ok (.iload_n 2, 1) := by decide +kernel
theorem dX5_measures_38 : decode cX5_measures 38 = .ok (.iadd, 1) := by decide +kernel
theorem dX5_measures_39 : decode cX5_measures 39 = .ok (.iaload, 1) := by decide +kernel
theorem dX5_measures_40 : decode cX5_measures 40 = .ok (.iload_n 3, 1) := by decide +kernel
theorem dX5_measures_41 : decode cX5_measures 41 = .ok (.invokestatic 50, 3) := by decide +kernel
theorem dX5_measures_44 : decode cX5_measures 44 = .ok (.ifCond .eq 7, 3) := by decide +kernel
theorem dX5_measures_47 : decode cX5_measures 47 = .ok (.iconst 1, 1) := by decide +kernel
theorem dX5_measures_48 : decode cX5_measures 48 = .ok (.goto 5, 3) := by decide +kernel
theorem dX5_measures_51 : decode cX5_measures 51 = .ok (.bipush 9, 2) := by decide +kernel
theorem dX5_measures_53 : decode cX5_measures 53 = .ok (.iastore, 1) := by decide +kernel
theorem dX5_measures_54 : decode cX5_measures 54 = .ok (.iinc 3 1, 3) := by decide +kernel
theorem dX5_measures_57 : decode cX5_measures 57 = .ok (.goto (-47), 3) := by decide +kernel
theorem dX5_measures_60 : decode cX5_measures 60 = .ok (.iinc 2 1, 3) := by decide +kernel
theorem dX5_measures_63 : decode cX5_measures 63 = .ok (.goto (-61), 3) := by decide +kernel
theorem dX5_measures_66 : decode cX5_measures 66 = .ok (.iconst 0, 1) := by decide +kernel
theorem dX5_measures_67 : decode cX5_measures 67 = .ok (.istore_n 2, 1) := by decide +kernel
theorem dX5_measures_68 : decode cX5_measures 68 = .ok (.iload_n 2, 1) := by decide +kernel
theorem dX5_measures_69 : decode cX5_measures 69 = .ok (.bipush 8, 2) := by decide +kernel
theorem dX5_measures_71 : decode cX5_measures 71 = .ok (.if_icmp .ge 90, 3) := by decide +kernel
theorem dX5_measures_74 : decode cX5_measures 74 = .ok (.iconst 0, 1) := by decide +kernel
theorem dX5_measures_75 : decode cX5_measures 75 = .ok (.istore_n 3, 1) := by decide +kernel
theorem dX5_measures_76 : decode cX5_measures 76 = .ok (.iload_n 3, 1) := by decide +kernel
theorem dX5_measures_77 : decode cX5_measures 77 = .ok (.bipush 8, 2) := by decide +kernel
theorem dX5_measures_79 : decode cX5_measures 79 = .ok (.if_icmp .ge 76, 3) := by decide +kernel
theorem dX5_measures_82 : decode cX5_measures 82 = .ok (.iconst 0, 1) := by decide +kernel
theorem dX5_measures_83 : decode cX5_measures 83 = .ok (.istore 4, 2) := by decide +kernel
theorem dX5_measures_85 : decode cX5_measures 85 = .ok (.iload 4, 2) := by decide +kernel
theorem dX5_measures_87 : decode cX5_measures 87 = .ok (.bipush 8, 2) := by decide +kernel
theorem dX5_measures_89 : decode cX5_measures 89 = .ok (.if_icmp .ge 60, 3) := by decide +kernel
theorem dX5_measures_92 : decode cX5_measures 92 = .ok (.aload_n 0, 1) := by decide +kernel
theorem dX5_measures_93 : decode cX5_measures 93 = .ok (.getfield 22, 3) := by decide +kernel
theorem dX5_measures_96 : decode cX5_measures 96 = .ok (.bipush 8, 2) := by decide +kernel
theorem dX5_measures_98 : decode cX5_measures 98 = .ok (.iload_n 3, 1) := by decide +kernel
theorem dX5_measures_99 : decode cX5_measures 99 = .ok (.imul, 1) := by decide +kernel
theorem dX5_measures_100 : decode cX5_measures 100 = .ok (.iload 4, 2) := by decide +kernel
theorem dX5_measures_102 : decode cX5_measures 102 = .ok (.iadd, 1) := by decide +kernel
theorem dX5_measures_103 : decode cX5_measures 103 = .ok (.aload_n 0, 1) := by decide +kernel
theorem dX5_measures_104 : decode cX5_measures 104 = .ok (.getfield 22, 3) := by decide +kernel
theorem dX5_measures_107 : decode cX5_measures 107 = .ok (.bipush 8, 2) := by decide +kernel
theorem dX5_measures_109 : decode cX5_measures 109 = .ok (.iload_n 3, 1) := by decide +kernel
theorem dX5_measures_110 : decode cX5_measures 110 = .ok (.imul, 1) := by decide +kernel
theorem dX5_measures_111 : decode cX5_measures 111 = .ok (.iload 4, 2) := by decide +kernel
theorem dX5_measures_113 : decode cX5_measures 113 = .ok (.iadd, 1) := by decide +kernel
theorem dX5_measures_114 : decode cX5_measures 114 = .ok (.iaload, 1) := by decide +kernel
theorem dX5_measures_115 : decode cX5_measures 115 = .ok (.aload_n 0, 1) := by decide +kernel
theorem dX5_measures_116 : decode cX5_measures 116 = .ok (.getfield 22, 3) := by decide +kernel
theorem dX5_measures_119 : decode cX5_measures 119 = .ok (.bipush 8, 2) := by decide +kernel
theorem dX5_measures_121 : decode cX5_measures 121 = .ok (.iload_n 3, 1) := by decide +kernel
theorem dX5_measures_122 : decode cX5_measures 122 = .ok (.imul, 1) := by decide +kernel
theorem dX5_measures_123 : decode cX5_measures 123 = .ok (.iload_n 2, 1) := by decide +kernel
theorem dX5_measures_124 : decode cX5_measures 124 = .ok (.iadd, 1) := by decide +kernel
theorem dX5_measures_125 : decode cX5_measures 125 = .ok (.iaload, 1) := by decide +kernel
theorem dX5_measures_126 : decode cX5_measures 126 = .ok (.aload_n 0, 1) := by decide +kernel
theorem dX5_measures_127 : decode cX5_measures 127 = .ok (.getfield 22, 3) := by decide +kernel
theorem dX5_measures_130 : decode cX5_measures 130 = .ok (.bipush 8, 2) := by decide +kernel
theorem dX5_measures_132 : decode cX5_measures 132 = .ok (.iload_n 2, 1) := by decide +kernel
theorem dX5_measures_133 : decode cX5_measures 133 = .ok (.imul, 1) := by decide +kernel
theorem dX5_measures_134 : decode cX5_measures 134 = .ok (.iload 4, 2) := by decide +kernel
theorem dX5_measures_136 : decode cX5_measures 136 = .ok (.iadd, 1) := by decide +kernel
theorem dX5_measures_137 : decode cX5_measures 137 = .ok (.iaload, 1) := by decide +kernel
theorem dX5_measures_138 : decode cX5_measures 138 = .ok (.iadd, 1) := by decide +kernel
theorem dX5_measures_139 : decode cX5_measures 139 = .ok (.invokestatic 54, 3) := by decide +kernel
theorem dX5_measures_142 : decode cX5_measures 142 = .ok (.iastore, 1) := by decide +kernel
theorem dX5_measures_143 : decode cX5_measures 143 = .ok (.iinc 4 1, 3) := by decide +kernel
theorem dX5_measures_146 : decode cX5_measures 146 = .ok (.goto (-61), 3) := by decide +kernel
theorem dX5_measures_149 : decode cX5_measures 149 = .ok (.iinc 3 1, 3) := by decide +kernel
theorem dX5_measures_152 : decode cX5_measures 152 = .ok (.goto (-76), 3) := by decide +kernel
theorem dX5_measures_155 : decode cX5_measures 155 = .ok (.iinc 2 1, 3) := by decide +kernel
theorem dX5_measures_158 : decode cX5_measures 158 = .ok (.goto (-90), 3) := by decide +kernel
theorem dX5_measures_161 : decode cX5_measures 161 = .ok (.return_, 1) := by decide +kernel
theorem dX5_pull_0 : decode cX5_pull 0 = .ok (.aload_n 1, 1) := by decide +kernel
theorem dX5_pull_1 : decode cX5_pull 1 = .ok (.iload_n 2, 1) := by decide +kernel
theorem dX5_pull_2 : decode cX5_pull 2 = .ok (.iconst 5, 1) := by decide +kernel
theorem dX5_pull_3 : decode cX5_pull 3 = .ok (.invokestatic 58, 3) := by decide +kernel
theorem dX5_pull_6 : decode cX5_pull 6 = .ok (.iaload, 1) := by decide +kernel
theorem dX5_pull_7 : decode cX5_pull 7 = .ok (.aload_n 0, 1) := by decide +kernel
theorem dX5_pull_8 : decode cX5_pull 8 = .ok (.getfield 22, 3) := by decide +kernel
theorem dX5_pull_11 : decode cX5_pull 11 = .ok (.bipush 8, 2) := by decide +kernel
theorem dX5_pull_13 : decode cX5_pull 13 = .ok (.iload_n 3, 1) := by decide +kernel
theorem dX5_pull_14 : decode cX5_pull 14 = .ok (.imul, 1) := by decide +kernel
theorem dX5_pull_15 : decode cX5_pull 15 = .ok (.aload_n 1, 1) := by decide +kernel
theorem dX5_pull_16 : decode cX5_pull 16 = .ok (.iload_n 2, 1) := by decide +kernel
theorem dX5_pull_17 : decode cX5_pull 17 = .ok (.iconst 2, 1) := by decide +kernel
theorem dX5_pull_18 : decode cX5_pull 18 = .ok (.invokestatic 58, 3) := by decide +kernel
theorem dX5_pull_21 : decode cX5_pull 21 = .ok (.iaload, 1) := by decide +kernel
theorem dX5_pull_22 : decode cX5_pull 22 = .ok (.iadd, 1) := by decide +kernel
theorem dX5_pull_23 : decode cX5_pull 23 = .ok (.iaload, 1) := by decide +kernel
theorem dX5_pull_24 : decode cX5_pull 24 = .ok (.imul, 1) := by decide +kernel
theorem dX5_pull_25 : decode cX5_pull 25 = .ok (.iconst 4, 1) := by decide +kernel
theorem dX5_pull_26 : decode cX5_pull 26 = .ok (.aload_n 1, 1) := by decide +kernel
theorem dX5_pull_27 : decode cX5_pull 27 = .ok (.iload_n 2, 1) := by decide +kernel
theorem dX5_pull_28 : decode cX5_pull 28 = .ok (.iconst 5, 1) := by decide +kernel
theorem dX5_pull_29 : decode cX5_pull 29 = .ok (.invokestatic 58, 3) := by decide +kernel
theorem dX5_pull_32 : decode cX5_pull 32 = .ok (.iaload, 1) := by decide +kernel
theorem dX5_pull_33 : decode cX5_pull 33 = .ok (.isub, 1) := by decide +kernel
theorem dX5_pull_34 : decode cX5_pull 34 = .ok (.aload_n 0, 1) := by decide +kernel
theorem dX5_pull_35 : decode cX5_pull 35 = .ok (.getfield 22, 3) := by decide +kernel
theorem dX5_pull_38 : decode cX5_pull 38 = .ok (.bipush 8, 2) := by decide +kernel
theorem dX5_pull_40 : decode cX5_pull 40 = .ok (.iload_n 3, 1) := by decide +kernel
theorem dX5_pull_41 : decode cX5_pull 41 = .ok (.imul, 1) := by decide +kernel
theorem dX5_pull_42 : decode cX5_pull 42 = .ok (.aload_n 1, 1) := by decide +kernel
theorem dX5_pull_43 : decode cX5_pull 43 = .ok (.iload_n 2, 1) := by decide +kernel
theorem dX5_pull_44 : decode cX5_pull 44 = .ok (.iconst 3, 1) := by decide +kernel
theorem dX5_pull_45 : decode cX5_pull 45 = .ok (.invokestatic 58, 3) := by decide +kernel
theorem dX5_pull_48 : decode cX5_pull 48 = .ok (.iaload, 1) := by decide +kernel
theorem dX5_pull_49 : decode cX5_pull 49 = .ok (.iadd, 1) := by decide +kernel
theorem dX5_pull_50 : decode cX5_pull 50 = .ok (.iaload, 1) := by decide +kernel
theorem dX5_pull_51 : decode cX5_pull 51 = .ok (.imul, 1) := by decide +kernel
theorem dX5_pull_52 : decode cX5_pull 52 = .ok (.iadd, 1) := by decide +kernel
theorem dX5_pull_53 : decode cX5_pull 53 = .ok (.ireturn, 1) := by decide +kernel
theorem dX5_goes_0 : decode cX5_goes 0 = .ok (.aload_n 1, 1) := by decide +kernel
theorem dX5_goes_1 : decode cX5_goes 1 = .ok (.iload_n 2, 1) := by decide +kernel
theorem dX5_goes_2 : decode cX5_goes 2 = .ok (.iconst 4, 1) := by decide +kernel
theorem dX5_goes_3 : decode cX5_goes 3 = .ok (.invokestatic 58, 3) := by decide +kernel
theorem dX5_goes_6 : decode cX5_goes 6 = .ok (.iaload, 1) := by decide +kernel
theorem dX5_goes_7 : decode cX5_goes 7 = .ok (.istore_n 3, 1) := by decide +kernel
theorem dX5_goes_8 : decode cX5_goes 8 = .ok (.iload_n 3, 1) := by decide +kernel
theorem dX5_goes_9 : decode cX5_goes 9 = .ok (.istore 4, 2) := by decide +kernel
theorem dX5_goes_11 : decode cX5_goes 11 = .ok (.iconst 0, 1) := by decide +kernel
theorem dX5_goes_12 : decode cX5_goes 12 = .ok (.istore 5, 2) := by decide +kernel
theorem dX5_goes_14 : decode cX5_goes 14 = .ok (.iload 5, 2) := by decide +kernel
theorem dX5_goes_16 : decode cX5_goes 16 = .ok (.bipush 8, 2) := by decide +kernel
theorem dX5_goes_18 : decode cX5_goes 18 = .ok (.if_icmp .ge 45, 3) := by decide +kernel
theorem dX5_goes_21 : decode cX5_goes 21 = .ok (.aload_n 1, 1) := by decide +kernel
theorem dX5_goes_22 : decode cX5_goes 22 = .ok (.iconst 2, 1) := by decide +kernel
theorem dX5_goes_23 : decode cX5_goes 23 = .ok (.iload_n 3, 1) := by decide +kernel
theorem dX5_goes_24 : decode cX5_goes 24 = .ok (.iadd, 1) := by decide +kernel
theorem dX5_goes_25 : decode cX5_goes 25 = .ok (.iaload, 1) := by decide +kernel
theorem dX5_goes_26 : decode cX5_goes 26 = .ok (.iload 5, 2) := by decide +kernel
theorem dX5_goes_28 : decode cX5_goes 28 = .ok (.invokestatic 50, 3) := by decide +kernel
theorem dX5_goes_31 : decode cX5_goes 31 = .ok (.ifCond .eq 26, 3) := by decide +kernel
theorem dX5_goes_34 : decode cX5_goes 34 = .ok (.aload_n 0, 1) := by decide +kernel
theorem dX5_goes_35 : decode cX5_goes 35 = .ok (.aload_n 1, 1) := by decide +kernel
theorem dX5_goes_36 : decode cX5_goes 36 = .ok (.iload_n 2, 1) := by decide +kernel
theorem dX5_goes_37 : decode cX5_goes 37 = .ok (.iload 5, 2) := by decide +kernel
theorem dX5_goes_39 : decode cX5_goes 39 = .ok (.invokevirtual 61, 3) := by decide +kernel
theorem dX5_goes_42 : decode cX5_goes 42 = .ok (.aload_n 0, 1) := by decide +kernel
theorem dX5_goes_43 : decode cX5_goes 43 = .ok (.aload_n 1, 1) := by decide +kernel
theorem dX5_goes_44 : decode cX5_goes 44 = .ok (.iload_n 2, 1) := by decide +kernel
theorem dX5_goes_45 : decode cX5_goes 45 = .ok (.iload 4, 2) := by decide +kernel
theorem dX5_goes_47 : decode cX5_goes 47 = .ok (.invokevirtual 61, 3) := by decide +kernel
theorem dX5_goes_50 : decode cX5_goes 50 = .ok (.if_icmp .ge 7, 3) := by decide +kernel
theorem dX5_goes_53 : decode cX5_goes 53 = .ok (.iload 5, 2) := by decide +kernel
theorem dX5_goes_55 : decode cX5_goes 55 = .ok (.istore 4, 2) := by decide +kernel
theorem dX5_goes_57 : decode cX5_goes 57 = .ok (.iinc 5 1, 3) := by decide +kernel
theorem dX5_goes_60 : decode cX5_goes 60 = .ok (.goto (-46), 3) := by decide +kernel
theorem dX5_goes_63 : decode cX5_goes 63 = .ok (.aload_n 1, 1) := by decide +kernel
theorem dX5_goes_64 : decode cX5_goes 64 = .ok (.iload_n 2, 1) := by decide +kernel
theorem dX5_goes_65 : decode cX5_goes 65 = .ok (.iconst 4, 1) := by decide +kernel
theorem dX5_goes_66 : decode cX5_goes 66 = .ok (.invokestatic 58, 3) := by decide +kernel
theorem dX5_goes_69 : decode cX5_goes 69 = .ok (.iload 4, 2) := by decide +kernel
theorem dX5_goes_71 : decode cX5_goes 71 = .ok (.iastore, 1) := by decide +kernel
theorem dX5_goes_72 : decode cX5_goes 72 = .ok (.return_, 1) := by decide +kernel
theorem dX5_day_0 : decode cX5_day 0 = .ok (.aload_n 1, 1) := by decide +kernel
theorem dX5_day_1 : decode cX5_day 1 = .ok (.iconst 1, 1) := by decide +kernel
theorem dX5_day_2 : decode cX5_day 2 = .ok (.dup2, 1) := by decide +kernel
theorem dX5_day_3 : decode cX5_day 3 = .ok (.iaload, 1) := by decide +kernel
theorem dX5_day_4 : decode cX5_day 4 = .ok (.iconst 1, 1) := by decide +kernel
theorem dX5_day_5 : decode cX5_day 5 = .ok (.iadd, 1) := by decide +kernel
theorem dX5_day_6 : decode cX5_day 6 = .ok (.iastore, 1) := by decide +kernel
theorem dX5_day_7 : decode cX5_day 7 = .ok (.iconst 0, 1) := by decide +kernel
theorem dX5_day_8 : decode cX5_day 8 = .ok (.istore_n 3, 1) := by decide +kernel
theorem dX5_day_9 : decode cX5_day 9 = .ok (.iload_n 3, 1) := by decide +kernel
theorem dX5_day_10 : decode cX5_day 10 = .ok (.aload_n 1, 1) := by decide +kernel
theorem dX5_day_11 : decode cX5_day 11 = .ok (.iconst 0, 1) := by decide +kernel
theorem dX5_day_12 : decode cX5_day 12 = .ok (.iaload, 1) := by decide +kernel
theorem dX5_day_13 : decode cX5_day 13 = .ok (.if_icmp .ge 101, 3) := by decide +kernel
theorem dX5_day_16 : decode cX5_day 16 = .ok (.aload_n 1, 1) := by decide +kernel
theorem dX5_day_17 : decode cX5_day 17 = .ok (.iload_n 3, 1) := by decide +kernel
theorem dX5_day_18 : decode cX5_day 18 = .ok (.bipush 6, 2) := by decide +kernel
theorem dX5_day_20 : decode cX5_day 20 = .ok (.invokestatic 58, 3) := by decide +kernel
theorem dX5_day_23 : decode cX5_day 23 = .ok (.bipush 99, 2) := by decide +kernel
theorem dX5_day_25 : decode cX5_day 25 = .ok (.aload_n 1, 1) := by decide +kernel
theorem dX5_day_26 : decode cX5_day 26 = .ok (.iload_n 3, 1) := by decide +kernel
theorem dX5_day_27 : decode cX5_day 27 = .ok (.bipush 6, 2) := by decide +kernel
theorem dX5_day_29 : decode cX5_day 29 = .ok (.invokestatic 58, 3) := by decide +kernel
theorem dX5_day_32 : decode cX5_day 32 = .ok (.iaload, 1) := by decide +kernel
theorem dX5_day_33 : decode cX5_day 33 = .ok (.iconst 1, 1) := by decide +kernel
theorem dX5_day_34 : decode cX5_day 34 = .ok (.iadd, 1) := by decide +kernel
theorem dX5_day_35 : decode cX5_day 35 = .ok (.invokestatic 54, 3) := by decide +kernel
theorem dX5_day_38 : decode cX5_day 38 = .ok (.iastore, 1) := by decide +kernel
theorem dX5_day_39 : decode cX5_day 39 = .ok (.aload_n 1, 1) := by decide +kernel
theorem dX5_day_40 : decode cX5_day 40 = .ok (.iload_n 3, 1) := by decide +kernel
theorem dX5_day_41 : decode cX5_day 41 = .ok (.iconst 0, 1) := by decide +kernel
theorem dX5_day_42 : decode cX5_day 42 = .ok (.invokestatic 58, 3) := by decide +kernel
theorem dX5_day_45 : decode cX5_day 45 = .ok (.iaload, 1) := by decide +kernel
theorem dX5_day_46 : decode cX5_day 46 = .ok (.aload_n 1, 1) := by decide +kernel
theorem dX5_day_47 : decode cX5_day 47 = .ok (.iload_n 3, 1) := by decide +kernel
theorem dX5_day_48 : decode cX5_day 48 = .ok (.iconst 1, 1) := by decide +kernel
theorem dX5_day_49 : decode cX5_day 49 = .ok (.invokestatic 58, 3) := by decide +kernel
theorem dX5_day_52 : decode cX5_day 52 = .ok (.iaload, 1) := by decide +kernel
theorem dX5_day_53 : decode cX5_day 53 = .ok (.invokestatic 65, 3) := by decide +kernel
theorem dX5_day_56 : decode cX5_day 56 = .ok (.istore 4, 2) := by decide +kernel
theorem dX5_day_58 : decode cX5_day 58 = .ok (.iload 4, 2) := by decide +kernel
theorem dX5_day_60 : decode cX5_day 60 = .ok (.ifCond .le 38, 3) := by decide +kernel
theorem dX5_day_63 : decode cX5_day 63 = .ok (.aload_n 1, 1) := by decide +kernel
theorem dX5_day_64 : decode cX5_day 64 = .ok (.iload_n 3, 1) := by decide +kernel
theorem dX5_day_65 : decode cX5_day 65 = .ok (.bipush 6, 2) := by decide +kernel
theorem dX5_day_67 : decode cX5_day 67 = .ok (.invokestatic 58, 3) := by decide +kernel
theorem dX5_day_70 : decode cX5_day 70 = .ok (.iaload, 1) := by decide +kernel
theorem dX5_day_71 : decode cX5_day 71 = .ok (.iload 4, 2) := by decide +kernel
theorem dX5_day_73 : decode cX5_day 73 = .ok (.irem, 1) := by decide +kernel
theorem dX5_day_74 : decode cX5_day 74 = .ok (.ifCond .ne 24, 3) := by decide +kernel
theorem dX5_day_77 : decode cX5_day 77 = .ok (.aload_n 1, 1) := by decide +kernel
theorem dX5_day_78 : decode cX5_day 78 = .ok (.iload_n 3, 1) := by decide +kernel
theorem dX5_day_79 : decode cX5_day 79 = .ok (.iconst 5, 1) := by decide +kernel
theorem dX5_day_80 : decode cX5_day 80 = .ok (.invokestatic 58, 3) := by decide +kernel
theorem dX5_day_83 : decode cX5_day 83 = .ok (.iaload, 1) := by decide +kernel
theorem dX5_day_84 : decode cX5_day 84 = .ok (.ifCond .le 14, 3) := by decide +kernel
theorem dX5_day_87 : decode cX5_day 87 = .ok (.aload_n 1, 1) := by decide +kernel
theorem dX5_day_88 : decode cX5_day 88 = .ok (.iload_n 3, 1) := by decide +kernel
theorem dX5_day_89 : decode cX5_day 89 = .ok (.iconst 5, 1) := by decide +kernel
theorem dX5_day_90 : decode cX5_day 90 = .ok (.invokestatic 58, 3) := by decide +kernel
theorem dX5_day_93 : decode cX5_day 93 = .ok (.dup2, 1) := by decide +kernel
theorem dX5_day_94 : decode cX5_day 94 = .ok (.iaload, 1) := by decide +kernel
theorem dX5_day_95 : decode cX5_day 95 = .ok (.iconst 1, 1) := by decide +kernel
theorem dX5_day_96 : decode cX5_day 96 = .ok (.isub, 1) := by decide +kernel
theorem dX5_day_97 : decode cX5_day 97 = .ok (.iastore, 1) := by decide +kernel
theorem dX5_day_98 : decode cX5_day 98 = .ok (.iload_n 2, 1) := by decide +kernel
theorem dX5_day_99 : decode cX5_day 99 = .ok (.ifCond .ne 9, 3) := by decide +kernel
theorem dX5_day_102 : decode cX5_day 102 = .ok (.aload_n 0, 1) := by decide +kernel
theorem dX5_day_103 : decode cX5_day 103 = .ok (.aload_n 1, 1) := by decide +kernel
theorem dX5_day_104 : decode cX5_day 104 = .ok (.iload_n 3, 1) := by decide +kernel
theorem dX5_day_105 : decode cX5_day 105 = .ok (.invokevirtual 68, 3) := by decide +kernel
theorem dX5_day_108 : decode cX5_day 108 = .ok (.iinc 3 1, 3) := by decide +kernel
theorem dX5_day_111 : decode cX5_day 111 = .ok (.goto (-102), 3) := by decide +kernel
theorem dX5_day_114 : decode cX5_day 114 = .ok (.return_, 1) := by decide +kernel
theorem dX5_daysOn_0 : decode cX5_daysOn 0 = .ok (.aload_n 0, 1) := by decide +kernel
theorem dX5_daysOn_1 : decode cX5_daysOn 1 = .ok (.aload_n 1, 1) := by decide +kernel
theorem dX5_daysOn_2 : decode cX5_daysOn 2 = .ok (.invokevirtual 72, 3) := by decide +kernel
theorem dX5_daysOn_5 : decode cX5_daysOn 5 = .ok (.iconst 0, 1) := by decide +kernel
theorem dX5_daysOn_6 : decode cX5_daysOn 6 = .ok (.istore_n 3, 1) := by decide +kernel
theorem dX5_daysOn_7 : decode cX5_daysOn 7 = .ok (.iload_n 3, 1) := by decide +kernel
theorem dX5_daysOn_8 : decode cX5_daysOn 8 = .ok (.iload_n 2, 1) := by decide +kernel
theorem dX5_daysOn_9 : decode cX5_daysOn 9 = .ok (.if_icmp .ge 15, 3) := by decide +kernel
theorem dX5_daysOn_12 : decode cX5_daysOn 12 = .ok (.aload_n 0, 1) := by decide +kernel
theorem dX5_daysOn_13 : decode cX5_daysOn 13 = .ok (.aload_n 1, 1) := by decide +kernel
theorem dX5_daysOn_14 : decode cX5_daysOn 14 = .ok (.iconst 0, 1) := by decide +kernel
theorem dX5_daysOn_15 : decode cX5_daysOn 15 = .ok (.invokevirtual 76, 3) := by decide +kernel
theorem dX5_daysOn_18 : decode cX5_daysOn 18 = .ok (.iinc 3 1, 3) := by decide +kernel
theorem dX5_daysOn_21 : decode cX5_daysOn 21 = .ok (.goto (-14), 3) := by decide +kernel
theorem dX5_daysOn_24 : decode cX5_daysOn 24 = .ok (.return_, 1) := by decide +kernel
theorem dX5_isShod_0 : decode cX5_isShod 0 = .ok (.aload_n 0, 1) := by decide +kernel
theorem dX5_isShod_1 : decode cX5_isShod 1 = .ok (.iload_n 1, 1) := by decide +kernel
theorem dX5_isShod_2 : decode cX5_isShod 2 = .ok (.iconst 5, 1) := by decide +kernel
theorem dX5_isShod_3 : decode cX5_isShod 3 = .ok (.invokestatic 58, 3) := by decide +kernel
theorem dX5_isShod_6 : decode cX5_isShod 6 = .ok (.aload_n 0, 1) := by decide +kernel
theorem dX5_isShod_7 : decode cX5_isShod 7 = .ok (.iload_n 1, 1) := by decide +kernel
theorem dX5_isShod_8 : decode cX5_isShod 8 = .ok (.iconst 0, 1) := by decide +kernel
theorem dX5_isShod_9 : decode cX5_isShod 9 = .ok (.invokestatic 58, 3) := by decide +kernel
theorem dX5_isShod_12 : decode cX5_isShod 12 = .ok (.iaload, 1) := by decide +kernel
theorem dX5_isShod_13 : decode cX5_isShod 13 = .ok (.invokestatic 80, 3) := by decide +kernel
theorem dX5_isShod_16 : decode cX5_isShod 16 = .ok (.iastore, 1) := by decide +kernel
theorem dX5_isShod_17 : decode cX5_isShod 17 = .ok (.aload_n 0, 1) := by decide +kernel
theorem dX5_isShod_18 : decode cX5_isShod 18 = .ok (.iload_n 1, 1) := by decide +kernel
theorem dX5_isShod_19 : decode cX5_isShod 19 = .ok (.bipush 6, 2) := by decide +kernel
theorem dX5_isShod_21 : decode cX5_isShod 21 = .ok (.invokestatic 58, 3) := by decide +kernel
theorem dX5_isShod_24 : decode cX5_isShod 24 = .ok (.iconst 0, 1) := by decide +kernel
theorem dX5_isShod_25 : decode cX5_isShod 25 = .ok (.iastore, 1) := by decide +kernel
theorem dX5_isShod_26 : decode cX5_isShod 26 = .ok (.return_, 1) := by decide +kernel
theorem dX5_atSaid_0 : decode cX5_atSaid 0 = .ok (.iconst 0, 1) := by decide +kernel
theorem dX5_atSaid_1 : decode cX5_atSaid 1 = .ok (.istore_n 1, 1) := by decide +kernel
theorem dX5_atSaid_2 : decode cX5_atSaid 2 = .ok (.iconst 0, 1) := by decide +kernel
theorem dX5_atSaid_3 : decode cX5_atSaid 3 = .ok (.istore_n 2, 1) := by decide +kernel
theorem dX5_atSaid_4 : decode cX5_atSaid 4 = .ok (.iload_n 2, 1) := by decide +kernel
theorem dX5_atSaid_5 : decode cX5_atSaid 5 = .ok (.aload_n 0, 1) := by decide +kernel
theorem dX5_atSaid_6 : decode cX5_atSaid 6 = .ok (.iconst 0, 1) := by decide +kernel
theorem dX5_atSaid_7 : decode cX5_atSaid 7 = .ok (.iaload, 1) := by decide +kernel
theorem dX5_atSaid_8 : decode cX5_atSaid 8 = .ok (.if_icmp .ge 36, 3) := by decide +kernel
theorem dX5_atSaid_11 : decode cX5_atSaid 11 = .ok (.iload_n 1, 1) := by decide +kernel
theorem dX5_atSaid_12 : decode cX5_atSaid 12 = .ok (.aload_n 0, 1) := by decide +kernel
theorem dX5_atSaid_13 : decode cX5_atSaid 13 = .ok (.iload_n 2, 1) := by decide +kernel
theorem dX5_atSaid_14 : decode cX5_atSaid 14 = .ok (.iconst 4, 1) := by decide +kernel
theorem dX5_atSaid_15 : decode cX5_atSaid 15 = .ok (.invokestatic 58, 3) := by decide +kernel
theorem dX5_atSaid_18 : decode cX5_atSaid 18 = .ok (.iaload, 1) := by decide +kernel
theorem dX5_atSaid_19 : decode cX5_atSaid 19 = .ok (.aload_n 0, 1) := by decide +kernel
theorem dX5_atSaid_20 : decode cX5_atSaid 20 = .ok (.iload_n 2, 1) := by decide +kernel
theorem dX5_atSaid_21 : decode cX5_atSaid 21 = .ok (.iconst 3, 1) := by decide +kernel
theorem dX5_atSaid_22 : decode cX5_atSaid 22 = .ok (.invokestatic 58, 3) := by decide +kernel
theorem dX5_atSaid_25 : decode cX5_atSaid 25 = .ok (.iaload, 1) := by decide +kernel
theorem dX5_atSaid_26 : decode cX5_atSaid 26 = .ok (.if_icmp .ne 9, 3) := by decide +kernel
theorem dX5_atSaid_29 : decode cX5_atSaid 29 = .ok (.iconst 1, 1) := by decide +kernel
theorem dX5_atSaid_30 : decode cX5_atSaid 30 = .ok (.iload_n 2, 1) := by decide +kernel
theorem dX5_atSaid_31 : decode cX5_atSaid 31 = .ok (.ishl, 1) := by decide +kernel
theorem dX5_atSaid_32 : decode cX5_atSaid 32 = .ok (.goto 4, 3) := by decide +kernel
theorem dX5_atSaid_35 : decode cX5_atSaid 35 = .ok (.iconst 0, 1) := by decide +kernel
theorem dX5_atSaid_36 : decode cX5_atSaid 36 = .ok (.ior, 1) := by decide +kernel
theorem dX5_atSaid_37 : decode cX5_atSaid 37 = .ok (.istore_n 1, 1) := by decide +kernel
theorem dX5_atSaid_38 : decode cX5_atSaid 38 = .ok (.iinc 2 1, 3) := by decide +kernel
theorem dX5_atSaid_41 : decode cX5_atSaid 41 = .ok (.goto (-37), 3) := by decide +kernel
theorem dX5_atSaid_44 : decode cX5_atSaid 44 = .ok (.iload_n 1, 1) := by decide +kernel
theorem dX5_atSaid_45 : decode cX5_atSaid 45 = .ok (.ireturn, 1) := by decide +kernel
theorem dX5_turnsRoad_0 : decode cX5_turnsRoad 0 = .ok (.aload_n 0, 1) := by decide +kernel
theorem dX5_turnsRoad_1 : decode cX5_turnsRoad 1 = .ok (.iconst 2, 1) := by decide +kernel
theorem dX5_turnsRoad_2 : decode cX5_turnsRoad 2 = .ok (.iload_n 1, 1) := by decide +kernel
theorem dX5_turnsRoad_3 : decode cX5_turnsRoad 3 = .ok (.iadd, 1) := by decide +kernel
theorem dX5_turnsRoad_4 : decode cX5_turnsRoad 4 = .ok (.dup2, 1) := by decide +kernel
theorem dX5_turnsRoad_5 : decode cX5_turnsRoad 5 = .ok (.iaload, 1) := by decide +kernel
theorem dX5_turnsRoad_6 : decode cX5_turnsRoad 6 = .ok (.iconst 1, 1) := by decide +kernel
theorem dX5_turnsRoad_7 : decode cX5_turnsRoad 7 = .ok (.iload_n 2, 1) := by decide +kernel
theorem dX5_turnsRoad_8 : decode cX5_turnsRoad 8 = .ok (.ishl, 1) := by decide +kernel
theorem dX5_turnsRoad_9 : decode cX5_turnsRoad 9 = .ok (.ixor, 1) := by decide +kernel
theorem dX5_turnsRoad_10 : decode cX5_turnsRoad 10 = .ok (.iastore, 1) := by decide +kernel
theorem dX5_turnsRoad_11 : decode cX5_turnsRoad 11 = .ok (.aload_n 0, 1) := by decide +kernel
theorem dX5_turnsRoad_12 : decode cX5_turnsRoad 12 = .ok (.iconst 2, 1) := by decide +kernel
theorem dX5_turnsRoad_13 : decode cX5_turnsRoad 13 = .ok (.iload_n 2, 1) := by decide +kernel
theorem dX5_turnsRoad_14 : decode cX5_turnsRoad 14 = .ok (.iadd, 1) := by decide +kernel
theorem dX5_turnsRoad_15 : decode cX5_turnsRoad 15 = .ok (.dup2, 1) := by decide +kernel
theorem dX5_turnsRoad_16 : decode cX5_turnsRoad 16 = .ok (.iaload, 1) := by decide +kernel
theorem dX5_turnsRoad_17 : decode cX5_turnsRoad 17 = .ok (.iconst 1, 1) := by decide +kernel
theorem dX5_turnsRoad_18 : decode cX5_turnsRoad 18 = .ok (.iload_n 1, 1) := by decide +kernel
theorem dX5_turnsRoad_19 : decode cX5_turnsRoad 19 = .ok (.ishl, 1) := by decide +kernel
theorem dX5_turnsRoad_20 : decode cX5_turnsRoad 20 = .ok (.ixor, 1) := by decide +kernel
theorem dX5_turnsRoad_21 : decode cX5_turnsRoad 21 = .ok (.iastore, 1) := by decide +kernel
theorem dX5_turnsRoad_22 : decode cX5_turnsRoad 22 = .ok (.return_, 1) := by decide +kernel
theorem dX5_letter_0 : decode cX5_letter 0 = .ok (.iload_n 1, 1) := by decide +kernel
theorem dX5_letter_1 : decode cX5_letter 1 = .ok (.ifCond .ge 10, 3) := by decide +kernel
theorem dX5_letter_4 : decode cX5_letter 4 = .ok (.aload_n 0, 1) := by decide +kernel
theorem dX5_letter_5 : decode cX5_letter 5 = .ok (.bipush (-4), 2) := by decide +kernel
theorem dX5_letter_7 : decode cX5_letter 7 = .ok (.invokevirtual 42, 3) := by decide +kernel
theorem dX5_letter_10 : decode cX5_letter 10 = .ok (.ireturn, 1) := by decide +kernel
theorem dX5_letter_11 : decode cX5_letter 11 = .ok (.iload_n 1, 1) := by decide +kernel
theorem dX5_letter_12 : decode cX5_letter 12 = .ok (.sipush 255, 3) := by decide +kernel
theorem dX5_letter_15 : decode cX5_letter 15 = .ok (.if_icmp .gt 12, 3) := by decide +kernel
theorem dX5_letter_18 : decode cX5_letter 18 = .ok (.aload_n 0, 1) := by decide +kernel
theorem dX5_letter_19 : decode cX5_letter 19 = .ok (.getfield 83, 3) := by decide +kernel
theorem dX5_letter_22 : decode cX5_letter 22 = .ok (.bipush 96, 2) := by decide +kernel
theorem dX5_letter_24 : decode cX5_letter 24 = .ok (.if_icmp .ne 10, 3) := by decide +kernel
theorem dX5_letter_27 : decode cX5_letter 27 = .ok (.aload_n 0, 1) := by decide +kernel
theorem dX5_letter_28 : decode cX5_letter 28 = .ok (.bipush (-6), 2) := by decide +kernel
theorem dX5_letter_30 : decode cX5_letter 30 = .ok (.invokevirtual 42, 3) := by decide +kernel
theorem dX5_letter_33 : decode cX5_letter 33 = .ok (.ireturn, 1) := by decide +kernel
theorem dX5_letter_34 : decode cX5_letter 34 = .ok (.aload_n 0, 1) := by decide +kernel
theorem dX5_letter_35 : decode cX5_letter 35 = .ok (.getfield 25, 3) := by decide +kernel
theorem dX5_letter_38 : decode cX5_letter 38 = .ok (.aload_n 0, 1) := by decide +kernel
theorem dX5_letter_39 : decode cX5_letter 39 = .ok (.getfield 83, 3) := by decide +kernel
theorem dX5_letter_42 : decode cX5_letter 42 = .ok (.iload_n 1, 1) := by decide +kernel
theorem dX5_letter_43 : decode cX5_letter 43 = .ok (.iastore, 1) := by decide +kernel
theorem dX5_letter_44 : decode cX5_letter 44 = .ok (.aload_n 0, 1) := by decide +kernel
theorem dX5_letter_45 : decode cX5_letter 45 = .ok (.dup, 1) := by decide +kernel
theorem dX5_letter_46 : decode cX5_letter 46 = .ok (.getfield 83, 3) := by decide +kernel
theorem dX5_letter_49 : decode cX5_letter 49 = .ok (.iconst 1, 1) := by decide +kernel
theorem dX5_letter_50 : decode cX5_letter 50 = .ok (.iadd, 1) := by decide +kernel
theorem dX5_letter_51 : decode cX5_letter 51 = .ok (.putfield 83, 3) := by decide +kernel
theorem dX5_letter_54 : decode cX5_letter 54 = .ok (.aload_n 0, 1) := by decide +kernel
theorem dX5_letter_55 : decode cX5_letter 55 = .ok (.getfield 83, 3) := by decide +kernel
theorem dX5_letter_58 : decode cX5_letter 58 = .ok (.ireturn, 1) := by decide +kernel
theorem dX5_here_0 : decode cX5_here 0 = .ok (.aload_n 0, 1) := by decide +kernel
theorem dX5_here_1 : decode cX5_here 1 = .ok (.getfield 87, 3) := by decide +kernel
theorem dX5_here_4 : decode cX5_here 4 = .ok (.aload_n 0, 1) := by decide +kernel
theorem dX5_here_5 : decode cX5_here 5 = .ok (.getfield 83, 3) := by decide +kernel
theorem dX5_here_8 : decode cX5_here 8 = .ok (.if_icmp .ge 15, 3) := by decide +kernel
theorem dX5_here_11 : decode cX5_here 11 = .ok (.aload_n 0, 1) := by decide +kernel
theorem dX5_here_12 : decode cX5_here 12 = .ok (.getfield 25, 3) := by decide +kernel
theorem dX5_here_15 : decode cX5_here 15 = .ok (.aload_n 0, 1) := by decide +kernel
theorem dX5_here_16 : decode cX5_here 16 = .ok (.getfield 87, 3) := by decide +kernel
theorem dX5_here_19 : decode cX5_here 19 = .ok (.iaload, 1) := by decide +kernel
theorem dX5_here_20 : decode cX5_here 20 = .ok (.goto 4, 3) := by decide +kernel
theorem dX5_here_23 : decode cX5_here 23 = .ok (.iconst (-1), 1) := by decide +kernel
theorem dX5_here_24 : decode cX5_here 24 = .ok (.ireturn, 1) := by decide +kernel
theorem dX5_readsNumber_0 : decode cX5_readsNumber 0 = .ok (.aload_n 0, 1) := by decide +kernel
theorem dX5_readsNumber_1 : decode cX5_readsNumber 1 = .ok (.getfield 34, 3) := by decide +kernel
theorem dX5_readsNumber_4 : decode cX5_readsNumber 4 = .ok (.iload_n 1, 1) := by decide +kernel
theorem dX5_readsNumber_5 : decode cX5_readsNumber 5 = .ok (.iconst 0, 1) := by decide +kernel
theorem dX5_readsNumber_6 : decode cX5_readsNumber 6 = .ok (.iastore, 1) := by decide +kernel
theorem dX5_readsNumber_7 : decode cX5_readsNumber 7 = .ok (.iconst 0, 1) := by decide +kernel
theorem dX5_readsNumber_8 : decode cX5_readsNumber 8 = .ok (.istore_n 3, 1) := by decide +kernel
theorem dX5_readsNumber_9 : decode cX5_readsNumber 9 = .ok (.iload_n 3, 1) := by decide +kernel
theorem dX5_readsNumber_10 : decode cX5_readsNumber 10 = .ok (.iload_n 2, 1) := by decide +kernel
theorem dX5_readsNumber_11 : decode cX5_readsNumber 11 = .ok (.if_icmp .ge 58, 3) := by decide +kernel
theorem dX5_readsNumber_14 : decode cX5_readsNumber 14 = .ok (.aload_n 0, 1) := by decide +kernel
theorem dX5_readsNumber_15 : decode cX5_readsNumber 15 = .ok (.invokevirtual 90, 3) := by decide +kernel
theorem dX5_readsNumber_18 : decode cX5_readsNumber 18 = .ok (.bipush 48, 2) := by decide +kernel
theorem dX5_readsNumber_20 : decode cX5_readsNumber 20 = .ok (.bipush 57, 2) := by decide +kernel
theorem dX5_readsNumber_22 : decode cX5_readsNumber 22 = .ok (.invokestatic 46, 3) := by decide +kernel
theorem dX5_readsNumber_25 : decode cX5_readsNumber 25 = .ok (.ifCond .ne 5, 3) := by decide +kernel
theorem dX5_readsNumber_28 : decode cX5_readsNumber 28 = .ok (.iconst 0, 1) := by decide +kernel
theorem dX5_readsNumber_29 : decode cX5_readsNumber 29 = .ok (.ireturn, 1) := by decide +kernel
theorem dX5_readsNumber_30 : decode cX5_readsNumber 30 = .ok (.aload_n 0, 1) := by decide +kernel
theorem dX5_readsNumber_31 : decode cX5_readsNumber 31 = .ok (.getfield 34, 3) := by decide +kernel
theorem dX5_readsNumber_34 : decode cX5_readsNumber 34 = .ok (.iload_n 1, 1) := by decide +kernel
theorem dX5_readsNumber_35 : decode cX5_readsNumber 35 = .ok (.bipush 10, 2) := by decide +kernel
theorem dX5_readsNumber_37 : decode cX5_readsNumber 37 = .ok (.aload_n 0, 1) := by decide +kernel
theorem dX5_readsNumber_38 : decode cX5_readsNumber 38 = .ok (.getfield 34, 3) := by decide +kernel
theorem dX5_readsNumber_41 : decode cX5_readsNumber 41 = .ok (.iload_n 1, 1) := by decide +kernel
theorem dX5_readsNumber_42 : decode cX5_readsNumber 42 = .ok (.iaload, 1) := by decide +kernel
theorem dX5_readsNumber_43 : decode cX5_readsNumber 43 = .ok (.imul, 1) := by decide +kernel
theorem dX5_readsNumber_44 : decode cX5_readsNumber 44 = .ok (.aload_n 0, 1) := by decide +kernel
theorem dX5_readsNumber_45 : decode cX5_readsNumber 45 = .ok (.invokevirtual 90, 3) := by decide +kernel
theorem dX5_readsNumber_48 : decode cX5_readsNumber 48 = .ok (.iadd, 1) := by decide +kernel
theorem dX5_readsNumber_49 : decode cX5_readsNumber 49 = .ok (.bipush 48, 2) := by decide +kernel
theorem dX5_readsNumber_51 : decode cX5_readsNumber 51 = .ok (.isub, 1) := by decide +kernel
theorem dX5_readsNumber_52 : decode cX5_readsNumber 52 = .ok (.iastore, 1) := by decide +kernel
theorem dX5_readsNumber_53 : decode cX5_readsNumber 53 = .ok (.aload_n 0, 1) := by decide +kernel
theorem dX5_readsNumber_54 : decode cX5_readsNumber 54 = .ok (.dup, 1) := by decide +kernel
theorem dX5_readsNumber_55 : decode cX5_readsNumber 55 = .ok (.getfield 87, 3) := by decide +kernel
theorem dX5_readsNumber_58 : decode cX5_readsNumber 58 = .ok (.iconst 1, 1) := by decide +kernel
theorem dX5_readsNumber_59 : decode cX5_readsNumber 59 = .ok (.iadd, 1) := by decide +kernel
theorem dX5_readsNumber_60 : decode cX5_readsNumber 60 = .ok (.putfield 87, 3) := by decide +kernel
theorem dX5_readsNumber_63 : decode cX5_readsNumber 63 = .ok (.iinc 3 1, 3) := by decide +kernel
theorem dX5_readsNumber_66 : decode cX5_readsNumber 66 = .ok (.goto (-57), 3) := by decide +kernel
theorem dX5_readsNumber_69 : decode cX5_readsNumber 69 = .ok (.iconst 1, 1) := by decide +kernel
theorem dX5_readsNumber_70 : decode cX5_readsNumber 70 = .ok (.ireturn, 1) := by decide +kernel
theorem dX5_kindBy_0 : decode cX5_kindBy 0 = .ok (.iload_n 0, 1) := by decide +kernel
theorem dX5_kindBy_1 : decode cX5_kindBy 1 = .ok (.lookupswitch 71 #[(98, 61), (109, 65), (112, 67), (114, 59), (117, 63), (120, 69)], 59) := by decide +kernel
theorem dX5_kindBy_60 : decode cX5_kindBy 60 = .ok (.iconst 0, 1) := by decide +kernel
theorem dX5_kindBy_61 : decode cX5_kindBy 61 = .ok (.ireturn, 1) := by decide +kernel
theorem dX5_kindBy_62 : decode cX5_kindBy 62 = .ok (.iconst 1, 1) := by decide +kernel
theorem dX5_kindBy_63 : decode cX5_kindBy 63 = .ok (.ireturn, 1) := by decide +kernel
theorem dX5_kindBy_64 : decode cX5_kindBy 64 = .ok (.iconst 2, 1) := by decide +kernel
theorem dX5_kindBy_65 : decode cX5_kindBy 65 = .ok (.ireturn, 1) := by decide +kernel
theorem dX5_kindBy_66 : decode cX5_kindBy 66 = .ok (.iconst 3, 1) := by decide +kernel
theorem dX5_kindBy_67 : decode cX5_kindBy 67 = .ok (.ireturn, 1) := by decide +kernel
theorem dX5_kindBy_68 : decode cX5_kindBy 68 = .ok (.iconst 4, 1) := by decide +kernel
theorem dX5_kindBy_69 : decode cX5_kindBy 69 = .ok (.ireturn, 1) := by decide +kernel
theorem dX5_kindBy_70 : decode cX5_kindBy 70 = .ok (.iconst 5, 1) := by decide +kernel
theorem dX5_kindBy_71 : decode cX5_kindBy 71 = .ok (.ireturn, 1) := by decide +kernel
theorem dX5_kindBy_72 : decode cX5_kindBy 72 = .ok (.bipush (-9), 2) := by decide +kernel
theorem dX5_kindBy_74 : decode cX5_kindBy 74 = .ok (.ireturn, 1) := by decide +kernel
theorem dX5_readsKind_0 : decode cX5_readsKind 0 = .ok (.aload_n 0, 1) := by decide +kernel
theorem dX5_readsKind_1 : decode cX5_readsKind 1 = .ok (.getfield 34, 3) := by decide +kernel
theorem dX5_readsKind_4 : decode cX5_readsKind 4 = .ok (.iconst 0, 1) := by decide +kernel
theorem dX5_readsKind_5 : decode cX5_readsKind 5 = .ok (.aload_n 0, 1) := by decide +kernel
theorem dX5_readsKind_6 : decode cX5_readsKind 6 = .ok (.invokevirtual 90, 3) := by decide +kernel
theorem dX5_readsKind_9 : decode cX5_readsKind 9 = .ok (.invokestatic 94, 3) := by decide +kernel
theorem dX5_readsKind_12 : decode cX5_readsKind 12 = .ok (.iastore, 1) := by decide +kernel
theorem dX5_readsKind_13 : decode cX5_readsKind 13 = .ok (.aload_n 0, 1) := by decide +kernel
theorem dX5_readsKind_14 : decode cX5_readsKind 14 = .ok (.dup, 1) := by decide +kernel
theorem dX5_readsKind_15 : decode cX5_readsKind 15 = .ok (.getfield 87, 3) := by decide +kernel
theorem dX5_readsKind_18 : decode cX5_readsKind 18 = .ok (.aload_n 0, 1) := by decide +kernel
theorem dX5_readsKind_19 : decode cX5_readsKind 19 = .ok (.getfield 34, 3) := by decide +kernel
theorem dX5_readsKind_22 : decode cX5_readsKind 22 = .ok (.iconst 0, 1) := by decide +kernel
theorem dX5_readsKind_23 : decode cX5_readsKind 23 = .ok (.iaload, 1) := by decide +kernel
theorem dX5_readsKind_24 : decode cX5_readsKind 24 = .ok (.ifCond .ge 7, 3) := by decide +kernel
theorem dX5_readsKind_27 : decode cX5_readsKind 27 = .ok (.iconst 0, 1) := by decide +kernel
theorem dX5_readsKind_28 : decode cX5_readsKind 28 = .ok (.goto 4, 3) := by decide +kernel
theorem dX5_readsKind_31 : decode cX5_readsKind 31 = .ok (.iconst 1, 1) := by decide +kernel
theorem dX5_readsKind_32 : decode cX5_readsKind 32 = .ok (.iadd, 1) := by decide +kernel
theorem dX5_readsKind_33 : decode cX5_readsKind 33 = .ok (.putfield 87, 3) := by decide +kernel
theorem dX5_readsKind_36 : decode cX5_readsKind 36 = .ok (.aload_n 0, 1) := by decide +kernel
theorem dX5_readsKind_37 : decode cX5_readsKind 37 = .ok (.getfield 34, 3) := by decide +kernel
theorem dX5_readsKind_40 : decode cX5_readsKind 40 = .ok (.iconst 0, 1) := by decide +kernel
theorem dX5_readsKind_41 : decode cX5_readsKind 41 = .ok (.iaload, 1) := by decide +kernel
theorem dX5_readsKind_42 : decode cX5_readsKind 42 = .ok (.ifCond .lt 7, 3) := by decide +kernel
theorem dX5_readsKind_45 : decode cX5_readsKind 45 = .ok (.iconst 1, 1) := by decide +kernel
theorem dX5_readsKind_46 : decode cX5_readsKind 46 = .ok (.goto 4, 3) := by decide +kernel
theorem dX5_readsKind_49 : decode cX5_readsKind 49 = .ok (.iconst 0, 1) := by decide +kernel
theorem dX5_readsKind_50 : decode cX5_readsKind 50 = .ok (.ireturn, 1) := by decide +kernel
theorem dX5_readsStatement_0 : decode cX5_readsStatement 0 = .ok (.aload_n 0, 1) := by decide +kernel
theorem dX5_readsStatement_1 : decode cX5_readsStatement 1 = .ok (.invokevirtual 90, 3) := by decide +kernel
theorem dX5_readsStatement_4 : decode cX5_readsStatement 4 = .ok (.istore_n 1, 1) := by decide +kernel
theorem dX5_readsStatement_5 : decode cX5_readsStatement 5 = .ok (.aload_n 0, 1) := by decide +kernel
theorem dX5_readsStatement_6 : decode cX5_readsStatement 6 = .ok (.dup, 1) := by decide +kernel
theorem dX5_readsStatement_7 : decode cX5_readsStatement 7 = .ok (.getfield 87, 3) := by decide +kernel
theorem dX5_readsStatement_10 : decode cX5_readsStatement 10 = .ok (.iconst 1, 1) := by decide +kernel
theorem dX5_readsStatement_11 : decode cX5_readsStatement 11 = .ok (.iadd, 1) := by decide +kernel
theorem dX5_readsStatement_12 : decode cX5_readsStatement 12 = .ok (.putfield 87, 3) := by decide +kernel
theorem dX5_readsStatement_15 : decode cX5_readsStatement 15 = .ok (.iload_n 1, 1) := by decide +kernel
theorem dX5_readsStatement_16 : decode cX5_readsStatement 16 = .ok (.lookupswitch 159 #[(97, 60), (100, 149), (104, 87), (114, 60), (115, 139), (119, 60)], 60) := by decide +kernel
theorem dX5_readsStatement_76 : decode cX5_readsStatement 76 = .ok (.aload_n 0, 1) := by decide +kernel
theorem dX5_readsStatement_77 : decode cX5_readsStatement 77 = .ok (.iconst 0, 1) := by decide +kernel
theorem dX5_readsStatement_78 : decode cX5_readsStatement 78 = .ok (.iconst 1, 1) := by decide +kernel
theorem dX5_readsStatement_79 : decode cX5_readsStatement 79 = .ok (.invokevirtual 97, 3) := by decide +kernel
theorem dX5_readsStatement_82 : decode cX5_readsStatement 82 = .ok (.ifCond .eq 16, 3) := by decide +kernel
theorem dX5_readsStatement_85 : decode cX5_readsStatement 85 = .ok (.aload_n 0, 1) := by decide +kernel
theorem dX5_readsStatement_86 : decode cX5_readsStatement 86 = .ok (.iconst 1, 1) := by decide +kernel
theorem dX5_readsStatement_87 : decode cX5_readsStatement 87 = .ok (.iconst 1, 1) := by decide +kernel
theorem dX5_readsStatement_88 : decode cX5_readsStatement 88 = .ok (.invokevirtual 97, 3) := by decide +kernel
theorem dX5_readsStatement_91 : decode cX5_readsStatement 91 = .ok (.ifCond .eq 7, 3) := by decide +kernel
theorem dX5_readsStatement_94 : decode cX5_readsStatement 94 = .ok (.iconst 1, 1) := by decide +kernel
theorem dX5_readsStatement_95 : decode cX5_readsStatement 95 = .ok (.goto 4, 3) := by decide +kernel
theorem dX5_readsStatement_98 : decode cX5_readsStatement 98 = .ok (.iconst 0, 1) := by decide +kernel
theorem dX5_readsStatement_99 : decode cX5_readsStatement 99 = .ok (.istore_n 2, 1) := by decide +kernel
theorem dX5_readsStatement_100 : decode cX5_readsStatement 100 = .ok (.goto 87, 3) := by decide +kernel
theorem dX5_readsStatement_103 : decode cX5_readsStatement 103 = .ok (.aload_n 0, 1) := by decide +kernel
theorem dX5_readsStatement_104 : decode cX5_readsStatement 104 = .ok (.invokevirtual 100, 3) := by decide +kernel
theorem dX5_readsStatement_107 : decode cX5_readsStatement 107 = .ok (.ifCond .eq 43, 3) := by decide +kernel
theorem dX5_readsStatement_110 : decode cX5_readsStatement 110 = .ok (.aload_n 0, 1) := by decide +kernel
theorem dX5_readsStatement_111 : decode cX5_readsStatement 111 = .ok (.iconst 1, 1) := by decide +kernel
theorem dX5_readsStatement_112 : decode cX5_readsStatement 112 = .ok (.iconst 1, 1) := by decide +kernel
theorem dX5_readsStatement_113 : decode cX5_readsStatement 113 = .ok (.invokevirtual 97, 3) := by decide +kernel
theorem dX5_readsStatement_116 : decode cX5_readsStatement 116 = .ok (.ifCond .eq 34, 3) := by decide +kernel
theorem dX5_readsStatement_119 : decode cX5_readsStatement 119 = .ok (.aload_n 0, 1) := by decide +kernel
theorem dX5_readsStatement_120 : decode cX5_readsStatement 120 = .ok (.iconst 2, 1) := by decide +kernel
theorem dX5_readsStatement_121 : decode cX5_readsStatement 121 = .ok (.iconst 1, 1) := by decide +kernel
theorem dX5_readsStatement_122 : decode cX5_readsStatement 122 = .ok (.invokevirtual 97, 3) := by decide +kernel
theorem dX5_readsStatement_125 : decode cX5_readsStatement 125 = .ok (.ifCond .eq 25, 3) := by decide +kernel
theorem dX5_readsStatement_128 : decode cX5_readsStatement 128 = .ok (.aload_n 0, 1) := by decide +kernel
theorem dX5_readsStatement_129 : decode cX5_readsStatement 129 = .ok (.iconst 3, 1) := by decide +kernel
theorem dX5_readsStatement_130 : decode cX5_readsStatement 130 = .ok (.iconst 1, 1) := by decide +kernel
theorem dX5_readsStatement_131 : decode cX5_readsStatement 131 = .ok (.invokevirtual 97, 3) := by decide +kernel
theorem dX5_readsStatement_134 : decode cX5_readsStatement 134 = .ok (.ifCond .eq 16, 3) := by decide +kernel
theorem dX5_readsStatement_137 : decode cX5_readsStatement 137 = .ok (.aload_n 0, 1) := by decide +kernel
theorem dX5_readsStatement_138 : decode cX5_readsStatement 138 = .ok (.iconst 4, 1) := by decide +kernel
theorem dX5_readsStatement_139 : decode cX5_readsStatement 139 = .ok (.iconst 1, 1) := by decide +kernel
theorem dX5_readsStatement_140 : decode cX5_readsStatement 140 = .ok (.invokevirtual 97, 3) := by decide +kernel
theorem dX5_readsStatement_143 : decode cX5_readsStatement 143 = .ok (.ifCond .eq 7, 3) := by decide +kernel
theorem dX5_readsStatement_146 : decode cX5_readsStatement 146 = .ok (.iconst 1, 1) := by decide +kernel
theorem dX5_readsStatement_147 : decode cX5_readsStatement 147 = .ok (.goto 4, 3) := by decide +kernel
theorem dX5_readsStatement_150 : decode cX5_readsStatement 150 = .ok (.iconst 0, 1) := by decide +kernel
theorem dX5_readsStatement_151 : decode cX5_readsStatement 151 = .ok (.istore_n 2, 1) := by decide +kernel
theorem dX5_readsStatement_152 : decode cX5_readsStatement 152 = .ok (.goto 35, 3) := by decide +kernel
theorem dX5_readsStatement_155 : decode cX5_readsStatement 155 = .ok (.aload_n 0, 1) := by decide +kernel
theorem dX5_readsStatement_156 : decode cX5_readsStatement 156 = .ok (.iconst 0, 1) := by decide +kernel
theorem dX5_readsStatement_157 : decode cX5_readsStatement 157 = .ok (.iconst 1, 1) := by decide +kernel
theorem dX5_readsStatement_158 : decode cX5_readsStatement 158 = .ok (.invokevirtual 97, 3) := by decide +kernel
theorem dX5_readsStatement_161 : decode cX5_readsStatement 161 = .ok (.istore_n 2, 1) := by decide +kernel
theorem dX5_readsStatement_162 : decode cX5_readsStatement 162 = .ok (.goto 25, 3) := by decide +kernel
theorem dX5_readsStatement_165 : decode cX5_readsStatement 165 = .ok (.aload_n 0, 1) := by decide +kernel
theorem dX5_readsStatement_166 : decode cX5_readsStatement 166 = .ok (.iconst 0, 1) := by decide +kernel
theorem dX5_readsStatement_167 : decode cX5_readsStatement 167 = .ok (.iconst 2, 1) := by decide +kernel
theorem dX5_readsStatement_168 : decode cX5_readsStatement 168 = .ok (.invokevirtual 97, 3) := by decide +kernel
theorem dX5_readsStatement_171 : decode cX5_readsStatement 171 = .ok (.istore_n 2, 1) := by decide +kernel
theorem dX5_readsStatement_172 : decode cX5_readsStatement 172 = .ok (.goto 15, 3) := by decide +kernel
theorem dX5_readsStatement_175 : decode cX5_readsStatement 175 = .ok (.aload_n 0, 1) := by decide +kernel
theorem dX5_readsStatement_176 : decode cX5_readsStatement 176 = .ok (.dup, 1) := by decide +kernel
theorem dX5_readsStatement_177 : decode cX5_readsStatement 177 = .ok (.getfield 87, 3) := by decide +kernel
theorem dX5_readsStatement_180 : decode cX5_readsStatement 180 = .ok (.iconst 1, 1) := by decide +kernel
theorem dX5_readsStatement_181 : decode cX5_readsStatement 181 = .ok (.isub, 1) := by decide +kernel
theorem dX5_readsStatement_182 : decode cX5_readsStatement 182 = .ok (.putfield 87, 3) := by decide +kernel
theorem dX5_readsStatement_185 : decode cX5_readsStatement 185 = .ok (.iconst 0, 1) := by decide +kernel
theorem dX5_readsStatement_186 : decode cX5_readsStatement 186 = .ok (.ireturn, 1) := by decide +kernel
theorem dX5_readsStatement_187 : decode cX5_readsStatement 187 = .ok (.iload_n 2, 1) := by decide +kernel
theorem dX5_readsStatement_188 : decode cX5_readsStatement 188 = .ok (.ifCond .eq 12, 3) := by decide +kernel
theorem dX5_readsStatement_191 : decode cX5_readsStatement 191 = .ok (.aload_n 0, 1) := by decide +kernel
theorem dX5_readsStatement_192 : decode cX5_readsStatement 192 = .ok (.invokevirtual 90, 3) := by decide +kernel
theorem dX5_readsStatement_195 : decode cX5_readsStatement 195 = .ok (.bipush 59, 2) := by decide +kernel
theorem dX5_readsStatement_197 : decode cX5_readsStatement 197 = .ok (.if_icmp .eq 5, 3) := by decide +kernel
theorem dX5_readsStatement_200 : decode cX5_readsStatement 200 = .ok (.iconst 0, 1) := by decide +kernel
theorem dX5_readsStatement_201 : decode cX5_readsStatement 201 = .ok (.ireturn, 1) := by decide +kernel
theorem dX5_readsStatement_202 : decode cX5_readsStatement 202 = .ok (.aload_n 0, 1) := by decide +kernel
theorem dX5_readsStatement_203 : decode cX5_readsStatement 203 = .ok (.dup, 1) := by decide +kernel
theorem dX5_readsStatement_204 : decode cX5_readsStatement 204 = .ok (.getfield 87, 3) := by decide +kernel
theorem dX5_readsStatement_207 : decode cX5_readsStatement 207 = .ok (.iconst 1, 1) := by decide +kernel
theorem dX5_readsStatement_208 : decode cX5_readsStatement 208 = .ok (.iadd, 1) := by decide +kernel
theorem dX5_readsStatement_209 : decode cX5_readsStatement 209 = .ok (.putfield 87, 3) := by decide +kernel
theorem dX5_readsStatement_212 : decode cX5_readsStatement 212 = .ok (.iconst 1, 1) := by decide +kernel
theorem dX5_readsStatement_213 : decode cX5_readsStatement 213 = .ok (.ireturn, 1) := by decide +kernel
theorem dX5_addsRider_0 : decode cX5_addsRider 0 = .ok (.aload_n 0, 1) := by decide +kernel
theorem dX5_addsRider_1 : decode cX5_addsRider 1 = .ok (.getfield 34, 3) := by decide +kernel
theorem dX5_addsRider_4 : decode cX5_addsRider 4 = .ok (.iconst 2, 1) := by decide +kernel
theorem dX5_addsRider_5 : decode cX5_addsRider 5 = .ok (.iaload, 1) := by decide +kernel
theorem dX5_addsRider_6 : decode cX5_addsRider 6 = .ok (.invokestatic 104, 3) := by decide +kernel
theorem dX5_addsRider_9 : decode cX5_addsRider 9 = .ok (.ifCond .eq 38, 3) := by decide +kernel
theorem dX5_addsRider_12 : decode cX5_addsRider 12 = .ok (.aload_n 0, 1) := by decide +kernel
theorem dX5_addsRider_13 : decode cX5_addsRider 13 = .ok (.getfield 34, 3) := by decide +kernel
theorem dX5_addsRider_16 : decode cX5_addsRider 16 = .ok (.iconst 3, 1) := by decide +kernel
theorem dX5_addsRider_17 : decode cX5_addsRider 17 = .ok (.iaload, 1) := by decide +kernel
theorem dX5_addsRider_18 : decode cX5_addsRider 18 = .ok (.invokestatic 104, 3) := by decide +kernel
theorem dX5_addsRider_21 : decode cX5_addsRider 21 = .ok (.ifCond .eq 26, 3) := by decide +kernel
theorem dX5_addsRider_24 : decode cX5_addsRider 24 = .ok (.aload_n 0, 1) := by decide +kernel
theorem dX5_addsRider_25 : decode cX5_addsRider 25 = .ok (.getfield 34, 3) := by decide +kernel
theorem dX5_addsRider_28 : decode cX5_addsRider 28 = .ok (.iconst 4, 1) := by decide +kernel
theorem dX5_addsRider_29 : decode cX5_addsRider 29 = .ok (.iaload, 1) := by decide +kernel
theorem dX5_addsRider_30 : decode cX5_addsRider 30 = .ok (.invokestatic 104, 3) := by decide +kernel
theorem dX5_addsRider_33 : decode cX5_addsRider 33 = .ok (.ifCond .eq 14, 3) := by decide +kernel
theorem dX5_addsRider_36 : decode cX5_addsRider 36 = .ok (.aload_n 0, 1) := by decide +kernel
theorem dX5_addsRider_37 : decode cX5_addsRider 37 = .ok (.getfield 9, 3) := by decide +kernel
theorem dX5_addsRider_40 : decode cX5_addsRider 40 = .ok (.iconst 0, 1) := by decide +kernel
theorem dX5_addsRider_41 : decode cX5_addsRider 41 = .ok (.iaload, 1) := by decide +kernel
theorem dX5_addsRider_42 : decode cX5_addsRider 42 = .ok (.bipush 6, 2) := by decide +kernel
theorem dX5_addsRider_44 : decode cX5_addsRider 44 = .ok (.if_icmp .ne 5, 3) := by decide +kernel
theorem dX5_addsRider_47 : decode cX5_addsRider 47 = .ok (.iconst 0, 1) := by decide +kernel
theorem dX5_addsRider_48 : decode cX5_addsRider 48 = .ok (.ireturn, 1) := by decide +kernel
theorem dX5_addsRider_49 : decode cX5_addsRider 49 = .ok (.aload_n 0, 1) := by decide +kernel
theorem dX5_addsRider_50 : decode cX5_addsRider 50 = .ok (.getfield 9, 3) := by decide +kernel
theorem dX5_addsRider_53 : decode cX5_addsRider 53 = .ok (.iconst 0, 1) := by decide +kernel
theorem dX5_addsRider_54 : decode cX5_addsRider 54 = .ok (.iaload, 1) := by decide +kernel
theorem dX5_addsRider_55 : decode cX5_addsRider 55 = .ok (.istore_n 1, 1) := by decide +kernel
theorem dX5_addsRider_56 : decode cX5_addsRider 56 = .ok (.iconst 0, 1) := by decide +kernel
theorem dX5_addsRider_57 : decode cX5_addsRider 57 = .ok (.istore_n 2, 1) := by decide +kernel
theorem dX5_addsRider_58 : decode cX5_addsRider 58 = .ok (.iload_n 2, 1) := by decide +kernel
theorem dX5_addsRider_59 : decode cX5_addsRider 59 = .ok (.iconst 5, 1) := by decide +kernel
theorem dX5_addsRider_60 : decode cX5_addsRider 60 = .ok (.if_icmp .ge 25, 3) := by decide +kernel
theorem dX5_addsRider_63 : decode cX5_addsRider 63 = .ok (.aload_n 0, 1) := by decide +kernel
theorem dX5_addsRider_64 : decode cX5_addsRider 64 = .ok (.getfield 9, 3) := by decide +kernel
theorem dX5_addsRider_67 : decode cX5_addsRider 67 = .ok (.iload_n 1, 1) := by decide +kernel
theorem dX5_addsRider_68 : decode cX5_addsRider 68 = .ok (.iload_n 2, 1) := by decide +kernel
theorem dX5_addsRider_69 : decode cX5_addsRider 69 = .ok (.invokestatic 58, 3) := by decide +kernel
theorem dX5_addsRider_72 : decode cX5_addsRider 72 = .ok (.aload_n 0, 1) := by decide +kernel
theorem dX5_addsRider_73 : decode cX5_addsRider 73 = .ok (.getfield 34, 3) := by decide +kernel
theorem dX5_addsRider_76 : decode cX5_addsRider 76 = .ok (.iload_n 2, 1) := by decide +kernel
theorem dX5_addsRider_77 : decode cX5_addsRider 77 = .ok (.iaload, 1) := by decide +kernel
theorem dX5_addsRider_78 : decode cX5_addsRider 78 = .ok (.iastore, 1) := by decide +kernel
theorem dX5_addsRider_79 : decode cX5_addsRider 79 = .ok (.iinc 2 1, 3) := by decide +kernel
theorem dX5_addsRider_82 : decode cX5_addsRider 82 = .ok (.goto (-24), 3) := by decide +kernel
theorem dX5_addsRider_85 : decode cX5_addsRider 85 = .ok (.aload_n 0, 1) := by decide +kernel
theorem dX5_addsRider_86 : decode cX5_addsRider 86 = .ok (.getfield 9, 3) := by decide +kernel
theorem dX5_addsRider_89 : decode cX5_addsRider 89 = .ok (.iload_n 1, 1) := by decide +kernel
theorem dX5_addsRider_90 : decode cX5_addsRider 90 = .ok (.invokestatic 108, 3) := by decide +kernel
theorem dX5_addsRider_93 : decode cX5_addsRider 93 = .ok (.aload_n 0, 1) := by decide +kernel
theorem dX5_addsRider_94 : decode cX5_addsRider 94 = .ok (.getfield 9, 3) := by decide +kernel
theorem dX5_addsRider_97 : decode cX5_addsRider 97 = .ok (.iconst 0, 1) := by decide +kernel
theorem dX5_addsRider_98 : decode cX5_addsRider 98 = .ok (.dup2, 1) := by decide +kernel
theorem dX5_addsRider_99 : decode cX5_addsRider 99 = .ok (.iaload, 1) := by decide +kernel
theorem dX5_addsRider_100 : decode cX5_addsRider 100 = .ok (.iconst 1, 1) := by decide +kernel
theorem dX5_addsRider_101 : decode cX5_addsRider 101 = .ok (.iadd, 1) := by decide +kernel
theorem dX5_addsRider_102 : decode cX5_addsRider 102 = .ok (.iastore, 1) := by decide +kernel
theorem dX5_addsRider_103 : decode cX5_addsRider 103 = .ok (.iconst 1, 1) := by decide +kernel
theorem dX5_addsRider_104 : decode cX5_addsRider 104 = .ok (.ireturn, 1) := by decide +kernel
theorem dX5_isDone_0 : decode cX5_isDone 0 = .ok (.aload_n 0, 1) := by decide +kernel
theorem dX5_isDone_1 : decode cX5_isDone 1 = .ok (.getfield 34, 3) := by decide +kernel
theorem dX5_isDone_4 : decode cX5_isDone 4 = .ok (.iconst 0, 1) := by decide +kernel
theorem dX5_isDone_5 : decode cX5_isDone 5 = .ok (.iaload, 1) := by decide +kernel
theorem dX5_isDone_6 : decode cX5_isDone 6 = .ok (.istore_n 2, 1) := by decide +kernel
theorem dX5_isDone_7 : decode cX5_isDone 7 = .ok (.aload_n 0, 1) := by decide +kernel
theorem dX5_isDone_8 : decode cX5_isDone 8 = .ok (.getfield 34, 3) := by decide +kernel
theorem dX5_isDone_11 : decode cX5_isDone 11 = .ok (.iconst 1, 1) := by decide +kernel
theorem dX5_isDone_12 : decode cX5_isDone 12 = .ok (.iaload, 1) := by decide +kernel
theorem dX5_isDone_13 : decode cX5_isDone 13 = .ok (.istore_n 3, 1) := by decide +kernel
theorem dX5_isDone_14 : decode cX5_isDone 14 = .ok (.iload_n 1, 1) := by decide +kernel
theorem dX5_isDone_15 : decode cX5_isDone 15 = .ok (.lookupswitch 146 #[(97, 106), (104, 81), (114, 49), (115, 86), (119, 106)], 49) := by decide +kernel
theorem dX5_isDone_64 : decode cX5_isDone 64 = .ok (.iload_n 2, 1) := by decide +kernel
theorem dX5_isDone_65 : decode cX5_isDone 65 = .ok (.invokestatic 104, 3) := by decide +kernel
theorem dX5_isDone_68 : decode cX5_isDone 68 = .ok (.ifCond .eq 15, 3) := by decide +kernel
theorem dX5_isDone_71 : decode cX5_isDone 71 = .ok (.iload_n 3, 1) := by decide +kernel
theorem dX5_isDone_72 : decode cX5_isDone 72 = .ok (.invokestatic 104, 3) := by decide +kernel
theorem dX5_isDone_75 : decode cX5_isDone 75 = .ok (.ifCond .eq 8, 3) := by decide +kernel
theorem dX5_isDone_78 : decode cX5_isDone 78 = .ok (.iload_n 2, 1) := by decide +kernel
theorem dX5_isDone_79 : decode cX5_isDone 79 = .ok (.iload_n 3, 1) := by decide +kernel
theorem dX5_isDone_80 : decode cX5_isDone 80 = .ok (.if_icmp .ne 5, 3) := by decide +kernel
theorem dX5_isDone_83 : decode cX5_isDone 83 = .ok (.iconst 0, 1) := by decide +kernel
theorem dX5_isDone_84 : decode cX5_isDone 84 = .ok (.ireturn, 1) := by decide +kernel
theorem dX5_isDone_85 : decode cX5_isDone 85 = .ok (.aload_n 0, 1) := by decide +kernel
theorem dX5_isDone_86 : decode cX5_isDone 86 = .ok (.getfield 9, 3) := by decide +kernel
theorem dX5_isDone_89 : decode cX5_isDone 89 = .ok (.iload_n 2, 1) := by decide +kernel
theorem dX5_isDone_90 : decode cX5_isDone 90 = .ok (.iload_n 3, 1) := by decide +kernel
theorem dX5_isDone_91 : decode cX5_isDone 91 = .ok (.invokestatic 111, 3) := by decide +kernel
theorem dX5_isDone_94 : decode cX5_isDone 94 = .ok (.iconst 1, 1) := by decide +kernel
theorem dX5_isDone_95 : decode cX5_isDone 95 = .ok (.ireturn, 1) := by decide +kernel
theorem dX5_isDone_96 : decode cX5_isDone 96 = .ok (.aload_n 0, 1) := by decide +kernel
theorem dX5_isDone_97 : decode cX5_isDone 97 = .ok (.invokevirtual 115, 3) := by decide +kernel
theorem dX5_isDone_100 : decode cX5_isDone 100 = .ok (.ireturn, 1) := by decide +kernel
theorem dX5_isDone_101 : decode cX5_isDone 101 = .ok (.aload_n 0, 1) := by decide +kernel
theorem dX5_isDone_102 : decode cX5_isDone 102 = .ok (.iload_n 2, 1) := by decide +kernel
theorem dX5_isDone_103 : decode cX5_isDone 103 = .ok (.invokevirtual 118, 3) := by decide +kernel
theorem dX5_isDone_106 : decode cX5_isDone 106 = .ok (.ifCond .ne 5, 3) := by decide +kernel
theorem dX5_isDone_109 : decode cX5_isDone 109 = .ok (.iconst 0, 1) := by decide +kernel
theorem dX5_isDone_110 : decode cX5_isDone 110 = .ok (.ireturn, 1) := by decide +kernel
theorem dX5_isDone_111 : decode cX5_isDone 111 = .ok (.aload_n 0, 1) := by decide +kernel
theorem dX5_isDone_112 : decode cX5_isDone 112 = .ok (.getfield 9, 3) := by decide +kernel
theorem dX5_isDone_115 : decode cX5_isDone 115 = .ok (.iload_n 2, 1) := by decide +kernel
theorem dX5_isDone_116 : decode cX5_isDone 116 = .ok (.invokestatic 108, 3) := by decide +kernel
theorem dX5_isDone_119 : decode cX5_isDone 119 = .ok (.iconst 1, 1) := by decide +kernel
theorem dX5_isDone_120 : decode cX5_isDone 120 = .ok (.ireturn, 1) := by decide +kernel
theorem dX5_isDone_121 : decode cX5_isDone 121 = .ok (.aload_n 0, 1) := by decide +kernel
theorem dX5_isDone_122 : decode cX5_isDone 122 = .ok (.iload_n 2, 1) := by decide +kernel
theorem dX5_isDone_123 : decode cX5_isDone 123 = .ok (.invokevirtual 118, 3) := by decide +kernel
theorem dX5_isDone_126 : decode cX5_isDone 126 = .ok (.ifCond .eq 10, 3) := by decide +kernel
theorem dX5_isDone_129 : decode cX5_isDone 129 = .ok (.iload_n 3, 1) := by decide +kernel
theorem dX5_isDone_130 : decode cX5_isDone 130 = .ok (.invokestatic 104, 3) := by decide +kernel
theorem dX5_isDone_133 : decode cX5_isDone 133 = .ok (.ifCond .ne 5, 3) := by decide +kernel
theorem dX5_isDone_136 : decode cX5_isDone 136 = .ok (.iconst 0, 1) := by decide +kernel
theorem dX5_isDone_137 : decode cX5_isDone 137 = .ok (.ireturn, 1) := by decide +kernel
theorem dX5_isDone_138 : decode cX5_isDone 138 = .ok (.aload_n 0, 1) := by decide +kernel
theorem dX5_isDone_139 : decode cX5_isDone 139 = .ok (.getfield 9, 3) := by decide +kernel
theorem dX5_isDone_142 : decode cX5_isDone 142 = .ok (.iload_n 2, 1) := by decide +kernel
theorem dX5_isDone_143 : decode cX5_isDone 143 = .ok (.iload_n 1, 1) := by decide +kernel
theorem dX5_isDone_144 : decode cX5_isDone 144 = .ok (.bipush 119, 2) := by decide +kernel
theorem dX5_isDone_146 : decode cX5_isDone 146 = .ok (.if_icmp .ne 7, 3) := by decide +kernel
theorem dX5_isDone_149 : decode cX5_isDone 149 = .ok (.iconst 2, 1) := by decide +kernel
theorem dX5_isDone_150 : decode cX5_isDone 150 = .ok (.goto 4, 3) := by decide +kernel
theorem dX5_isDone_153 : decode cX5_isDone 153 = .ok (.iconst 4, 1) := by decide +kernel
theorem dX5_isDone_154 : decode cX5_isDone 154 = .ok (.invokestatic 58, 3) := by decide +kernel
theorem dX5_isDone_157 : decode cX5_isDone 157 = .ok (.iload_n 3, 1) := by decide +kernel
theorem dX5_isDone_158 : decode cX5_isDone 158 = .ok (.iastore, 1) := by decide +kernel
theorem dX5_isDone_159 : decode cX5_isDone 159 = .ok (.iconst 1, 1) := by decide +kernel
theorem dX5_isDone_160 : decode cX5_isDone 160 = .ok (.ireturn, 1) := by decide +kernel
theorem dX5_isDone_161 : decode cX5_isDone 161 = .ok (.iload_n 2, 1) := by decide +kernel
theorem dX5_isDone_162 : decode cX5_isDone 162 = .ok (.iconst 1, 1) := by decide +kernel
theorem dX5_isDone_163 : decode cX5_isDone 163 = .ok (.bipush 60, 2) := by decide +kernel
theorem dX5_isDone_165 : decode cX5_isDone 165 = .ok (.invokestatic 46, 3) := by decide +kernel
theorem dX5_isDone_168 : decode cX5_isDone 168 = .ok (.ifCond .eq 17, 3) := by decide +kernel
theorem dX5_isDone_171 : decode cX5_isDone 171 = .ok (.aload_n 0, 1) := by decide +kernel
theorem dX5_isDone_172 : decode cX5_isDone 172 = .ok (.getfield 9, 3) := by decide +kernel
theorem dX5_isDone_175 : decode cX5_isDone 175 = .ok (.iconst 1, 1) := by decide +kernel
theorem dX5_isDone_176 : decode cX5_isDone 176 = .ok (.iaload, 1) := by decide +kernel
theorem dX5_isDone_177 : decode cX5_isDone 177 = .ok (.iload_n 2, 1) := by decide +kernel
theorem dX5_isDone_178 : decode cX5_isDone 178 = .ok (.iadd, 1) := by decide +kernel
theorem dX5_isDone_179 : decode cX5_isDone 179 = .ok (.sipush 999, 3) := by decide +kernel
theorem dX5_isDone_182 : decode cX5_isDone 182 = .ok (.if_icmp .le 5, 3) := by decide +kernel
theorem dX5_isDone_185 : decode cX5_isDone 185 = .ok (.iconst 0, 1) := by decide +kernel
theorem dX5_isDone_186 : decode cX5_isDone 186 = .ok (.ireturn, 1) := by decide +kernel
theorem dX5_isDone_187 : decode cX5_isDone 187 = .ok (.aload_n 0, 1) := by decide +kernel
theorem dX5_isDone_188 : decode cX5_isDone 188 = .ok (.aload_n 0, 1) := by decide +kernel
theorem dX5_isDone_189 : decode cX5_isDone 189 = .ok (.getfield 9, 3) := by decide +kernel
theorem dX5_isDone_192 : decode cX5_isDone 192 = .ok (.iload_n 2, 1) := by decide +kernel
theorem dX5_isDone_193 : decode cX5_isDone 193 = .ok (.invokevirtual 121, 3) := by decide +kernel
theorem dX5_isDone_196 : decode cX5_isDone 196 = .ok (.iconst 1, 1) := by decide +kernel
theorem dX5_isDone_197 : decode cX5_isDone 197 = .ok (.ireturn, 1) := by decide +kernel
theorem dX5_county_0 : decode cX5_county 0 = .ok (.aload_n 0, 1) := by decide +kernel
theorem dX5_county_1 : decode cX5_county 1 = .ok (.iconst 0, 1) := by decide +kernel
theorem dX5_county_2 : decode cX5_county 2 = .ok (.putfield 87, 3) := by decide +kernel
theorem dX5_county_5 : decode cX5_county 5 = .ok (.iconst 0, 1) := by decide +kernel
theorem dX5_county_6 : decode cX5_county 6 = .ok (.istore_n 1, 1) := by decide +kernel
theorem dX5_county_7 : decode cX5_county 7 = .ok (.bipush (-9), 2) := by decide +kernel
theorem dX5_county_9 : decode cX5_county 9 = .ok (.istore_n 2, 1) := by decide +kernel
theorem dX5_county_10 : decode cX5_county 10 = .ok (.aload_n 0, 1) := by decide +kernel
theorem dX5_county_11 : decode cX5_county 11 = .ok (.invokevirtual 124, 3) := by decide +kernel
theorem dX5_county_14 : decode cX5_county 14 = .ok (.ifCond .ne 12, 3) := by decide +kernel
theorem dX5_county_17 : decode cX5_county 17 = .ok (.sipush (-1000), 3) := by decide +kernel
theorem dX5_county_20 : decode cX5_county 20 = .ok (.aload_n 0, 1) := by decide +kernel
theorem dX5_county_21 : decode cX5_county 21 = .ok (.getfield 87, 3) := by decide +kernel
theorem dX5_county_24 : decode cX5_county 24 = .ok (.isub, 1) := by decide +kernel
theorem dX5_county_25 : decode cX5_county 25 = .ok (.istore_n 2, 1) := by decide +kernel
theorem dX5_county_26 : decode cX5_county 26 = .ok (.iinc 1 1, 3) := by decide +kernel
theorem dX5_county_29 : decode cX5_county 29 = .ok (.iload_n 2, 1) := by decide +kernel
theorem dX5_county_30 : decode cX5_county 30 = .ok (.bipush (-9), 2) := by decide +kernel
theorem dX5_county_32 : decode cX5_county 32 = .ok (.if_icmp .ne 14, 3) := by decide +kernel
theorem dX5_county_35 : decode cX5_county 35 = .ok (.aload_n 0, 1) := by decide +kernel
theorem dX5_county_36 : decode cX5_county 36 = .ok (.getfield 87, 3) := by decide +kernel
theorem dX5_county_39 : decode cX5_county 39 = .ok (.aload_n 0, 1) := by decide +kernel
theorem dX5_county_40 : decode cX5_county 40 = .ok (.getfield 83, 3) := by decide +kernel
theorem dX5_county_43 : decode cX5_county 43 = .ok (.if_icmp .lt (-33), 3) := by decide +kernel
theorem dX5_county_46 : decode cX5_county 46 = .ok (.aload_n 0, 1) := by decide +kernel
theorem dX5_county_47 : decode cX5_county 47 = .ok (.getfield 9, 3) := by decide +kernel
theorem dX5_county_50 : decode cX5_county 50 = .ok (.aload_n 0, 1) := by decide +kernel
theorem dX5_county_51 : decode cX5_county 51 = .ok (.getfield 19, 3) := by decide +kernel
theorem dX5_county_54 : decode cX5_county 54 = .ok (.invokestatic 127, 3) := by decide +kernel
theorem dX5_county_57 : decode cX5_county 57 = .ok (.aload_n 0, 1) := by decide +kernel
theorem dX5_county_58 : decode cX5_county 58 = .ok (.iconst 0, 1) := by decide +kernel
theorem dX5_county_59 : decode cX5_county 59 = .ok (.putfield 87, 3) := by decide +kernel
theorem dX5_county_62 : decode cX5_county 62 = .ok (.iload_n 2, 1) := by decide +kernel
theorem dX5_county_63 : decode cX5_county 63 = .ok (.bipush (-9), 2) := by decide +kernel
theorem dX5_county_65 : decode cX5_county 65 = .ok (.if_icmp .ne 63, 3) := by decide +kernel
theorem dX5_county_68 : decode cX5_county 68 = .ok (.aload_n 0, 1) := by decide +kernel
theorem dX5_county_69 : decode cX5_county 69 = .ok (.getfield 87, 3) := by decide +kernel
theorem dX5_county_72 : decode cX5_county 72 = .ok (.aload_n 0, 1) := by decide +kernel
theorem dX5_county_73 : decode cX5_county 73 = .ok (.getfield 83, 3) := by decide +kernel
theorem dX5_county_76 : decode cX5_county 76 = .ok (.if_icmp .ge 52, 3) := by decide +kernel
theorem dX5_county_79 : decode cX5_county 79 = .ok (.aload_n 0, 1) := by decide +kernel
theorem dX5_county_80 : decode cX5_county 80 = .ok (.getfield 87, 3) := by decide +kernel
theorem dX5_county_83 : decode cX5_county 83 = .ok (.istore_n 3, 1) := by decide +kernel
theorem dX5_county_84 : decode cX5_county 84 = .ok (.aload_n 0, 1) := by decide +kernel
theorem dX5_county_85 : decode cX5_county 85 = .ok (.invokevirtual 90, 3) := by decide +kernel
theorem dX5_county_88 : decode cX5_county 88 = .ok (.istore 4, 2) := by decide +kernel
theorem dX5_county_90 : decode cX5_county 90 = .ok (.aload_n 0, 1) := by decide +kernel
theorem dX5_county_91 : decode cX5_county 91 = .ok (.invokevirtual 124, 3) := by decide +kernel
theorem dX5_county_94 : decode cX5_county 94 = .ok (.istore 5, 2) := by decide +kernel
theorem dX5_county_96 : decode cX5_county 96 = .ok (.aload_n 0, 1) := by decide +kernel
theorem dX5_county_97 : decode cX5_county 97 = .ok (.iload 4, 2) := by decide +kernel
theorem dX5_county_99 : decode cX5_county 99 = .ok (.invokevirtual 131, 3) := by decide +kernel
theorem dX5_county_102 : decode cX5_county 102 = .ok (.ifCond .eq 6, 3) := by decide +kernel
theorem dX5_county_105 : decode cX5_county 105 = .ok (.goto (-43), 3) := by decide +kernel
theorem dX5_county_108 : decode cX5_county 108 = .ok (.sipush (-2000), 3) := by decide +kernel
theorem dX5_county_111 : decode cX5_county 111 = .ok (.iload_n 3, 1) := by decide +kernel
theorem dX5_county_112 : decode cX5_county 112 = .ok (.isub, 1) := by decide +kernel
theorem dX5_county_113 : decode cX5_county 113 = .ok (.istore_n 2, 1) := by decide +kernel
theorem dX5_county_114 : decode cX5_county 114 = .ok (.aload_n 0, 1) := by decide +kernel
theorem dX5_county_115 : decode cX5_county 115 = .ok (.getfield 19, 3) := by decide +kernel
theorem dX5_county_118 : decode cX5_county 118 = .ok (.aload_n 0, 1) := by decide +kernel
theorem dX5_county_119 : decode cX5_county 119 = .ok (.getfield 9, 3) := by decide +kernel
theorem dX5_county_122 : decode cX5_county 122 = .ok (.invokestatic 127, 3) := by decide +kernel
theorem dX5_county_125 : decode cX5_county 125 = .ok (.goto (-63), 3) := by decide +kernel
theorem dX5_county_128 : decode cX5_county 128 = .ok (.aload_n 0, 1) := by decide +kernel
theorem dX5_county_129 : decode cX5_county 129 = .ok (.iconst 0, 1) := by decide +kernel
theorem dX5_county_130 : decode cX5_county 130 = .ok (.putfield 83, 3) := by decide +kernel
theorem dX5_county_133 : decode cX5_county 133 = .ok (.iload_n 2, 1) := by decide +kernel
theorem dX5_county_134 : decode cX5_county 134 = .ok (.bipush (-9), 2) := by decide +kernel
theorem dX5_county_136 : decode cX5_county 136 = .ok (.if_icmp .ne 7, 3) := by decide +kernel
theorem dX5_county_139 : decode cX5_county 139 = .ok (.iload_n 1, 1) := by decide +kernel
theorem dX5_county_140 : decode cX5_county 140 = .ok (.goto 4, 3) := by decide +kernel
theorem dX5_county_143 : decode cX5_county 143 = .ok (.iload_n 2, 1) := by decide +kernel
theorem dX5_county_144 : decode cX5_county 144 = .ok (.ireturn, 1) := by decide +kernel
theorem dX5_rider_0 : decode cX5_rider 0 = .ok (.aload_n 0, 1) := by decide +kernel
theorem dX5_rider_1 : decode cX5_rider 1 = .ok (.iload_n 1, 1) := by decide +kernel
theorem dX5_rider_2 : decode cX5_rider 2 = .ok (.invokevirtual 118, 3) := by decide +kernel
theorem dX5_rider_5 : decode cX5_rider 5 = .ok (.ifCond .ne 9, 3) := by decide +kernel
theorem dX5_rider_8 : decode cX5_rider 8 = .ok (.aload_n 0, 1) := by decide +kernel
theorem dX5_rider_9 : decode cX5_rider 9 = .ok (.iconst (-1), 1) := by decide +kernel
theorem dX5_rider_10 : decode cX5_rider 10 = .ok (.invokevirtual 42, 3) := by decide +kernel
theorem dX5_rider_13 : decode cX5_rider 13 = .ok (.ireturn, 1) := by decide +kernel
theorem dX5_rider_14 : decode cX5_rider 14 = .ok (.iload_n 2, 1) := by decide +kernel
theorem dX5_rider_15 : decode cX5_rider 15 = .ok (.iconst 0, 1) := by decide +kernel
theorem dX5_rider_16 : decode cX5_rider 16 = .ok (.bipush 6, 2) := by decide +kernel
theorem dX5_rider_18 : decode cX5_rider 18 = .ok (.invokestatic 46, 3) := by decide +kernel
theorem dX5_rider_21 : decode cX5_rider 21 = .ok (.ifCond .eq 14, 3) := by decide +kernel
theorem dX5_rider_24 : decode cX5_rider 24 = .ok (.aload_n 0, 1) := by decide +kernel
theorem dX5_rider_25 : decode cX5_rider 25 = .ok (.getfield 9, 3) := by decide +kernel
theorem dX5_rider_28 : decode cX5_rider 28 = .ok (.iload_n 1, 1) := by decide +kernel
theorem dX5_rider_29 : decode cX5_rider 29 = .ok (.iload_n 2, 1) := by decide +kernel
theorem dX5_rider_30 : decode cX5_rider 30 = .ok (.invokestatic 58, 3) := by decide +kernel
theorem dX5_rider_33 : decode cX5_rider 33 = .ok (.iaload, 1) := by decide +kernel
theorem dX5_rider_34 : decode cX5_rider 34 = .ok (.ireturn, 1) := by decide +kernel
theorem dX5_rider_35 : decode cX5_rider 35 = .ok (.iload_n 2, 1) := by decide +kernel
theorem dX5_rider_36 : decode cX5_rider 36 = .ok (.bipush 7, 2) := by decide +kernel
theorem dX5_rider_38 : decode cX5_rider 38 = .ok (.if_icmp .ne 29, 3) := by decide +kernel
theorem dX5_rider_41 : decode cX5_rider 41 = .ok (.aload_n 0, 1) := by decide +kernel
theorem dX5_rider_42 : decode cX5_rider 42 = .ok (.getfield 9, 3) := by decide +kernel
theorem dX5_rider_45 : decode cX5_rider 45 = .ok (.iload_n 1, 1) := by decide +kernel
theorem dX5_rider_46 : decode cX5_rider 46 = .ok (.iconst 0, 1) := by decide +kernel
theorem dX5_rider_47 : decode cX5_rider 47 = .ok (.invokestatic 58, 3) := by decide +kernel
theorem dX5_rider_50 : decode cX5_rider 50 = .ok (.iaload, 1) := by decide +kernel
theorem dX5_rider_51 : decode cX5_rider 51 = .ok (.aload_n 0, 1) := by decide +kernel
theorem dX5_rider_52 : decode cX5_rider 52 = .ok (.getfield 9, 3) := by decide +kernel
theorem dX5_rider_55 : decode cX5_rider 55 = .ok (.iload_n 1, 1) := by decide +kernel
theorem dX5_rider_56 : decode cX5_rider 56 = .ok (.iconst 1, 1) := by decide +kernel
theorem dX5_rider_57 : decode cX5_rider 57 = .ok (.invokestatic 58, 3) := by decide +kernel
theorem dX5_rider_60 : decode cX5_rider 60 = .ok (.iaload, 1) := by decide +kernel
theorem dX5_rider_61 : decode cX5_rider 61 = .ok (.invokestatic 65, 3) := by decide +kernel
theorem dX5_rider_64 : decode cX5_rider 64 = .ok (.goto 9, 3) := by decide +kernel
theorem dX5_rider_67 : decode cX5_rider 67 = .ok (.aload_n 0, 1) := by decide +kernel
theorem dX5_rider_68 : decode cX5_rider 68 = .ok (.bipush (-2), 2) := by decide +kernel
theorem dX5_rider_70 : decode cX5_rider 70 = .ok (.invokevirtual 42, 3) := by decide +kernel
theorem dX5_rider_73 : decode cX5_rider 73 = .ok (.ireturn, 1) := by decide +kernel
theorem dX5_steps_0 : decode cX5_steps 0 = .ok (.iload_n 1, 1) := by decide +kernel
theorem dX5_steps_1 : decode cX5_steps 1 = .ok (.invokestatic 104, 3) := by decide +kernel
theorem dX5_steps_4 : decode cX5_steps 4 = .ok (.ifCond .eq 10, 3) := by decide +kernel
theorem dX5_steps_7 : decode cX5_steps 7 = .ok (.iload_n 2, 1) := by decide +kernel
theorem dX5_steps_8 : decode cX5_steps 8 = .ok (.invokestatic 104, 3) := by decide +kernel
theorem dX5_steps_11 : decode cX5_steps 11 = .ok (.ifCond .ne 9, 3) := by decide +kernel
theorem dX5_steps_14 : decode cX5_steps 14 = .ok (.aload_n 0, 1) := by decide +kernel
theorem dX5_steps_15 : decode cX5_steps 15 = .ok (.iconst (-1), 1) := by decide +kernel
theorem dX5_steps_16 : decode cX5_steps 16 = .ok (.invokevirtual 42, 3) := by decide +kernel
theorem dX5_steps_19 : decode cX5_steps 19 = .ok (.ireturn, 1) := by decide +kernel
theorem dX5_steps_20 : decode cX5_steps 20 = .ok (.aload_n 0, 1) := by decide +kernel
theorem dX5_steps_21 : decode cX5_steps 21 = .ok (.aload_n 0, 1) := by decide +kernel
theorem dX5_steps_22 : decode cX5_steps 22 = .ok (.getfield 9, 3) := by decide +kernel
theorem dX5_steps_25 : decode cX5_steps 25 = .ok (.invokevirtual 72, 3) := by decide +kernel
theorem dX5_steps_28 : decode cX5_steps 28 = .ok (.aload_n 0, 1) := by decide +kernel
theorem dX5_steps_29 : decode cX5_steps 29 = .ok (.getfield 22, 3) := by decide +kernel
theorem dX5_steps_32 : decode cX5_steps 32 = .ok (.bipush 8, 2) := by decide +kernel
theorem dX5_steps_34 : decode cX5_steps 34 = .ok (.iload_n 1, 1) := by decide +kernel
theorem dX5_steps_35 : decode cX5_steps 35 = .ok (.imul, 1) := by decide +kernel
theorem dX5_steps_36 : decode cX5_steps 36 = .ok (.iload_n 2, 1) := by decide +kernel
theorem dX5_steps_37 : decode cX5_steps 37 = .ok (.iadd, 1) := by decide +kernel
theorem dX5_steps_38 : decode cX5_steps 38 = .ok (.iaload, 1) := by decide +kernel
theorem dX5_steps_39 : decode cX5_steps 39 = .ok (.ireturn, 1) := by decide +kernel
theorem dX5_pulls_0 : decode cX5_pulls 0 = .ok (.aload_n 0, 1) := by decide +kernel
theorem dX5_pulls_1 : decode cX5_pulls 1 = .ok (.iload_n 1, 1) := by decide +kernel
theorem dX5_pulls_2 : decode cX5_pulls 2 = .ok (.invokevirtual 118, 3) := by decide +kernel
theorem dX5_pulls_5 : decode cX5_pulls 5 = .ok (.ifCond .eq 10, 3) := by decide +kernel
theorem dX5_pulls_8 : decode cX5_pulls 8 = .ok (.iload_n 2, 1) := by decide +kernel
theorem dX5_pulls_9 : decode cX5_pulls 9 = .ok (.invokestatic 104, 3) := by decide +kernel
theorem dX5_pulls_12 : decode cX5_pulls 12 = .ok (.ifCond .ne 9, 3) := by decide +kernel
theorem dX5_pulls_15 : decode cX5_pulls 15 = .ok (.aload_n 0, 1) := by decide +kernel
theorem dX5_pulls_16 : decode cX5_pulls 16 = .ok (.iconst (-1), 1) := by decide +kernel
theorem dX5_pulls_17 : decode cX5_pulls 17 = .ok (.invokevirtual 42, 3) := by decide +kernel
theorem dX5_pulls_20 : decode cX5_pulls 20 = .ok (.ireturn, 1) := by decide +kernel
theorem dX5_pulls_21 : decode cX5_pulls 21 = .ok (.aload_n 0, 1) := by decide +kernel
theorem dX5_pulls_22 : decode cX5_pulls 22 = .ok (.aload_n 0, 1) := by decide +kernel
theorem dX5_pulls_23 : decode cX5_pulls 23 = .ok (.getfield 9, 3) := by decide +kernel
theorem dX5_pulls_26 : decode cX5_pulls 26 = .ok (.invokevirtual 72, 3) := by decide +kernel
theorem dX5_pulls_29 : decode cX5_pulls 29 = .ok (.aload_n 0, 1) := by decide +kernel
theorem dX5_pulls_30 : decode cX5_pulls 30 = .ok (.aload_n 0, 1) := by decide +kernel
theorem dX5_pulls_31 : decode cX5_pulls 31 = .ok (.getfield 9, 3) := by decide +kernel
theorem dX5_pulls_34 : decode cX5_pulls 34 = .ok (.iload_n 1, 1) := by decide +kernel
theorem dX5_pulls_35 : decode cX5_pulls 35 = .ok (.iload_n 2, 1) := by decide +kernel
theorem dX5_pulls_36 : decode cX5_pulls 36 = .ok (.invokevirtual 61, 3) := by decide +kernel
theorem dX5_pulls_39 : decode cX5_pulls 39 = .ok (.ireturn, 1) := by decide +kernel
theorem dX5_roads_0 : decode cX5_roads 0 = .ok (.iload_n 1, 1) := by decide +kernel
theorem dX5_roads_1 : decode cX5_roads 1 = .ok (.invokestatic 104, 3) := by decide +kernel
theorem dX5_roads_4 : decode cX5_roads 4 = .ok (.ifCond .eq 15, 3) := by decide +kernel
theorem dX5_roads_7 : decode cX5_roads 7 = .ok (.iload_n 2, 1) := by decide +kernel
theorem dX5_roads_8 : decode cX5_roads 8 = .ok (.invokestatic 104, 3) := by decide +kernel
theorem dX5_roads_11 : decode cX5_roads 11 = .ok (.ifCond .eq 8, 3) := by decide +kernel
theorem dX5_roads_14 : decode cX5_roads 14 = .ok (.iload_n 1, 1) := by decide +kernel
theorem dX5_roads_15 : decode cX5_roads 15 = .ok (.iload_n 2, 1) := by decide +kernel
theorem dX5_roads_16 : decode cX5_roads 16 = .ok (.if_icmp .ne 9, 3) := by decide +kernel
theorem dX5_roads_19 : decode cX5_roads 19 = .ok (.aload_n 0, 1) := by decide +kernel
theorem dX5_roads_20 : decode cX5_roads 20 = .ok (.iconst (-1), 1) := by decide +kernel
theorem dX5_roads_21 : decode cX5_roads 21 = .ok (.invokevirtual 42, 3) := by decide +kernel
theorem dX5_roads_24 : decode cX5_roads 24 = .ok (.ireturn, 1) := by decide +kernel
theorem dX5_roads_25 : decode cX5_roads 25 = .ok (.aload_n 0, 1) := by decide +kernel
theorem dX5_roads_26 : decode cX5_roads 26 = .ok (.getfield 9, 3) := by decide +kernel
theorem dX5_roads_29 : decode cX5_roads 29 = .ok (.iload_n 1, 1) := by decide +kernel
theorem dX5_roads_30 : decode cX5_roads 30 = .ok (.iload_n 2, 1) := by decide +kernel
theorem dX5_roads_31 : decode cX5_roads 31 = .ok (.invokestatic 111, 3) := by decide +kernel
theorem dX5_roads_34 : decode cX5_roads 34 = .ok (.aload_n 0, 1) := by decide +kernel
theorem dX5_roads_35 : decode cX5_roads 35 = .ok (.getfield 9, 3) := by decide +kernel
theorem dX5_roads_38 : decode cX5_roads 38 = .ok (.iconst 2, 1) := by decide +kernel
theorem dX5_roads_39 : decode cX5_roads 39 = .ok (.iload_n 1, 1) := by decide +kernel
theorem dX5_roads_40 : decode cX5_roads 40 = .ok (.iadd, 1) := by decide +kernel
theorem dX5_roads_41 : decode cX5_roads 41 = .ok (.iaload, 1) := by decide +kernel
theorem dX5_roads_42 : decode cX5_roads 42 = .ok (.iload_n 2, 1) := by decide +kernel
theorem dX5_roads_43 : decode cX5_roads 43 = .ok (.ishr, 1) := by decide +kernel
theorem dX5_roads_44 : decode cX5_roads 44 = .ok (.iconst 1, 1) := by decide +kernel
theorem dX5_roads_45 : decode cX5_roads 45 = .ok (.iand, 1) := by decide +kernel
theorem dX5_roads_46 : decode cX5_roads 46 = .ok (.ireturn, 1) := by decide +kernel
theorem dX5_shod_0 : decode cX5_shod 0 = .ok (.aload_n 0, 1) := by decide +kernel
theorem dX5_shod_1 : decode cX5_shod 1 = .ok (.iload_n 1, 1) := by decide +kernel
theorem dX5_shod_2 : decode cX5_shod 2 = .ok (.invokevirtual 118, 3) := by decide +kernel
theorem dX5_shod_5 : decode cX5_shod 5 = .ok (.ifCond .ne 9, 3) := by decide +kernel
theorem dX5_shod_8 : decode cX5_shod 8 = .ok (.aload_n 0, 1) := by decide +kernel
theorem dX5_shod_9 : decode cX5_shod 9 = .ok (.iconst (-1), 1) := by decide +kernel
theorem dX5_shod_10 : decode cX5_shod 10 = .ok (.invokevirtual 42, 3) := by decide +kernel
theorem dX5_shod_13 : decode cX5_shod 13 = .ok (.ireturn, 1) := by decide +kernel
theorem dX5_shod_14 : decode cX5_shod 14 = .ok (.aload_n 0, 1) := by decide +kernel
theorem dX5_shod_15 : decode cX5_shod 15 = .ok (.getfield 9, 3) := by decide +kernel
theorem dX5_shod_18 : decode cX5_shod 18 = .ok (.iload_n 1, 1) := by decide +kernel
theorem dX5_shod_19 : decode cX5_shod 19 = .ok (.invokestatic 108, 3) := by decide +kernel
theorem dX5_shod_22 : decode cX5_shod 22 = .ok (.aload_n 0, 1) := by decide +kernel
theorem dX5_shod_23 : decode cX5_shod 23 = .ok (.getfield 9, 3) := by decide +kernel
theorem dX5_shod_26 : decode cX5_shod 26 = .ok (.iload_n 1, 1) := by decide +kernel
theorem dX5_shod_27 : decode cX5_shod 27 = .ok (.iconst 5, 1) := by decide +kernel
theorem dX5_shod_28 : decode cX5_shod 28 = .ok (.invokestatic 58, 3) := by decide +kernel
theorem dX5_shod_31 : decode cX5_shod 31 = .ok (.iaload, 1) := by decide +kernel
theorem dX5_shod_32 : decode cX5_shod 32 = .ok (.ireturn, 1) := by decide +kernel
theorem dX5_sets_0 : decode cX5_sets 0 = .ok (.aload_n 0, 1) := by decide +kernel
theorem dX5_sets_1 : decode cX5_sets 1 = .ok (.iload_n 1, 1) := by decide +kernel
theorem dX5_sets_2 : decode cX5_sets 2 = .ok (.invokevirtual 118, 3) := by decide +kernel
theorem dX5_sets_5 : decode cX5_sets 5 = .ok (.ifCond .eq 10, 3) := by decide +kernel
theorem dX5_sets_8 : decode cX5_sets 8 = .ok (.iload_n 3, 1) := by decide +kernel
theorem dX5_sets_9 : decode cX5_sets 9 = .ok (.invokestatic 104, 3) := by decide +kernel
theorem dX5_sets_12 : decode cX5_sets 12 = .ok (.ifCond .ne 9, 3) := by decide +kernel
theorem dX5_sets_15 : decode cX5_sets 15 = .ok (.aload_n 0, 1) := by decide +kernel
theorem dX5_sets_16 : decode cX5_sets 16 = .ok (.iconst (-1), 1) := by decide +kernel
theorem dX5_sets_17 : decode cX5_sets 17 = .ok (.invokevirtual 42, 3) := by decide +kernel
theorem dX5_sets_20 : decode cX5_sets 20 = .ok (.ireturn, 1) := by decide +kernel
theorem dX5_sets_21 : decode cX5_sets 21 = .ok (.aload_n 0, 1) := by decide +kernel
theorem dX5_sets_22 : decode cX5_sets 22 = .ok (.getfield 9, 3) := by decide +kernel
theorem dX5_sets_25 : decode cX5_sets 25 = .ok (.iload_n 1, 1) := by decide +kernel
theorem dX5_sets_26 : decode cX5_sets 26 = .ok (.iload_n 2, 1) := by decide +kernel
theorem dX5_sets_27 : decode cX5_sets 27 = .ok (.invokestatic 58, 3) := by decide +kernel
theorem dX5_sets_30 : decode cX5_sets 30 = .ok (.iaload, 1) := by decide +kernel
theorem dX5_sets_31 : decode cX5_sets 31 = .ok (.istore 4, 2) := by decide +kernel
theorem dX5_sets_33 : decode cX5_sets 33 = .ok (.aload_n 0, 1) := by decide +kernel
theorem dX5_sets_34 : decode cX5_sets 34 = .ok (.getfield 9, 3) := by decide +kernel
theorem dX5_sets_37 : decode cX5_sets 37 = .ok (.iload_n 1, 1) := by decide +kernel
theorem dX5_sets_38 : decode cX5_sets 38 = .ok (.iload_n 2, 1) := by decide +kernel
theorem dX5_sets_39 : decode cX5_sets 39 = .ok (.invokestatic 58, 3) := by decide +kernel
theorem dX5_sets_42 : decode cX5_sets 42 = .ok (.iload_n 3, 1) := by decide +kernel
theorem dX5_sets_43 : decode cX5_sets 43 = .ok (.iastore, 1) := by decide +kernel
theorem dX5_sets_44 : decode cX5_sets 44 = .ok (.iload 4, 2) := by decide +kernel
theorem dX5_sets_46 : decode cX5_sets 46 = .ok (.ireturn, 1) := by decide +kernel
theorem dX5_wants_0 : decode cX5_wants 0 = .ok (.aload_n 0, 1) := by decide +kernel
theorem dX5_wants_1 : decode cX5_wants 1 = .ok (.iload_n 1, 1) := by decide +kernel
theorem dX5_wants_2 : decode cX5_wants 2 = .ok (.iconst 2, 1) := by decide +kernel
theorem dX5_wants_3 : decode cX5_wants 3 = .ok (.iload_n 2, 1) := by decide +kernel
theorem dX5_wants_4 : decode cX5_wants 4 = .ok (.invokevirtual 134, 3) := by decide +kernel
theorem dX5_wants_7 : decode cX5_wants 7 = .ok (.ireturn, 1) := by decide +kernel
theorem dX5_stands_0 : decode cX5_stands 0 = .ok (.aload_n 0, 1) := by decide +kernel
theorem dX5_stands_1 : decode cX5_stands 1 = .ok (.iload_n 1, 1) := by decide +kernel
theorem dX5_stands_2 : decode cX5_stands 2 = .ok (.iconst 4, 1) := by decide +kernel
theorem dX5_stands_3 : decode cX5_stands 3 = .ok (.iload_n 2, 1) := by decide +kernel
theorem dX5_stands_4 : decode cX5_stands 4 = .ok (.invokevirtual 134, 3) := by decide +kernel
theorem dX5_stands_7 : decode cX5_stands 7 = .ok (.ireturn, 1) := by decide +kernel
theorem dX5_wrongBy_0 : decode cX5_wrongBy 0 = .ok (.iload_n 0, 1) := by decide +kernel
theorem dX5_wrongBy_1 : decode cX5_wrongBy 1 = .ok (.iload_n 1, 1) := by decide +kernel
theorem dX5_wrongBy_2 : decode cX5_wrongBy 2 = .ok (.if_icmp .ge 8, 3) := by decide +kernel
theorem dX5_wrongBy_5 : decode cX5_wrongBy 5 = .ok (.bipush (-4), 2) := by decide +kernel
theorem dX5_wrongBy_7 : decode cX5_wrongBy 7 = .ok (.goto 14, 3) := by decide +kernel
theorem dX5_wrongBy_10 : decode cX5_wrongBy 10 = .ok (.iload_n 0, 1) := by decide +kernel
theorem dX5_wrongBy_11 : decode cX5_wrongBy 11 = .ok (.iload_n 2, 1) := by decide +kernel
theorem dX5_wrongBy_12 : decode cX5_wrongBy 12 = .ok (.if_icmp .le 8, 3) := by decide +kernel
theorem dX5_wrongBy_15 : decode cX5_wrongBy 15 = .ok (.bipush (-6), 2) := by decide +kernel
theorem dX5_wrongBy_17 : decode cX5_wrongBy 17 = .ok (.goto 4, 3) := by decide +kernel
theorem dX5_wrongBy_20 : decode cX5_wrongBy 20 = .ok (.iconst 0, 1) := by decide +kernel
theorem dX5_wrongBy_21 : decode cX5_wrongBy 21 = .ok (.ireturn, 1) := by decide +kernel
theorem dX5_turn_0 : decode cX5_turn 0 = .ok (.aload_n 0, 1) := by decide +kernel
theorem dX5_turn_1 : decode cX5_turn 1 = .ok (.iload_n 1, 1) := by decide +kernel
theorem dX5_turn_2 : decode cX5_turn 2 = .ok (.invokevirtual 118, 3) := by decide +kernel
theorem dX5_turn_5 : decode cX5_turn 5 = .ok (.ifCond .ne 7, 3) := by decide +kernel
theorem dX5_turn_8 : decode cX5_turn 8 = .ok (.iconst (-1), 1) := by decide +kernel
theorem dX5_turn_9 : decode cX5_turn 9 = .ok (.goto 24, 3) := by decide +kernel
theorem dX5_turn_12 : decode cX5_turn 12 = .ok (.iload_n 2, 1) := by decide +kernel
theorem dX5_turn_13 : decode cX5_turn 13 = .ok (.iconst 0, 1) := by decide +kernel
theorem dX5_turn_14 : decode cX5_turn 14 = .ok (.iconst 5, 1) := by decide +kernel
theorem dX5_turn_15 : decode cX5_turn 15 = .ok (.invokestatic 46, 3) := by decide +kernel
theorem dX5_turn_18 : decode cX5_turn 18 = .ok (.ifCond .ne 8, 3) := by decide +kernel
theorem dX5_turn_21 : decode cX5_turn 21 = .ok (.bipush (-2), 2) := by decide +kernel
theorem dX5_turn_23 : decode cX5_turn 23 = .ok (.goto 10, 3) := by decide +kernel
theorem dX5_turn_26 : decode cX5_turn 26 = .ok (.iload_n 3, 1) := by decide +kernel
theorem dX5_turn_27 : decode cX5_turn 27 = .ok (.iconst 0, 1) := by decide +kernel
theorem dX5_turn_28 : decode cX5_turn 28 = .ok (.bipush 9, 2) := by decide +kernel
theorem dX5_turn_30 : decode cX5_turn 30 = .ok (.invokestatic 138, 3) := by decide +kernel
theorem dX5_turn_33 : decode cX5_turn 33 = .ok (.istore 4, 2) := by decide +kernel
theorem dX5_turn_35 : decode cX5_turn 35 = .ok (.iload 4, 2) := by decide +kernel
theorem dX5_turn_37 : decode cX5_turn 37 = .ok (.ifCond .eq 10, 3) := by decide +kernel
theorem dX5_turn_40 : decode cX5_turn 40 = .ok (.aload_n 0, 1) := by decide +kernel
theorem dX5_turn_41 : decode cX5_turn 41 = .ok (.iload 4, 2) := by decide +kernel
theorem dX5_turn_43 : decode cX5_turn 43 = .ok (.invokevirtual 42, 3) := by decide +kernel
theorem dX5_turn_46 : decode cX5_turn 46 = .ok (.ireturn, 1) := by decide +kernel
theorem dX5_turn_47 : decode cX5_turn 47 = .ok (.bipush 10, 2) := by decide +kernel
theorem dX5_turn_49 : decode cX5_turn 49 = .ok (.aload_n 0, 1) := by decide +kernel
theorem dX5_turn_50 : decode cX5_turn 50 = .ok (.getfield 9, 3) := by decide +kernel
theorem dX5_turn_53 : decode cX5_turn 53 = .ok (.iload_n 1, 1) := by decide +kernel
theorem dX5_turn_54 : decode cX5_turn 54 = .ok (.iconst 0, 1) := by decide +kernel
theorem dX5_turn_55 : decode cX5_turn 55 = .ok (.invokestatic 58, 3) := by decide +kernel
theorem dX5_turn_58 : decode cX5_turn 58 = .ok (.iaload, 1) := by decide +kernel
theorem dX5_turn_59 : decode cX5_turn 59 = .ok (.imul, 1) := by decide +kernel
theorem dX5_turn_60 : decode cX5_turn 60 = .ok (.aload_n 0, 1) := by decide +kernel
theorem dX5_turn_61 : decode cX5_turn 61 = .ok (.getfield 9, 3) := by decide +kernel
theorem dX5_turn_64 : decode cX5_turn 64 = .ok (.iload_n 1, 1) := by decide +kernel
theorem dX5_turn_65 : decode cX5_turn 65 = .ok (.iconst 1, 1) := by decide +kernel
theorem dX5_turn_66 : decode cX5_turn 66 = .ok (.invokestatic 58, 3) := by decide +kernel
theorem dX5_turn_69 : decode cX5_turn 69 = .ok (.iaload, 1) := by decide +kernel
theorem dX5_turn_70 : decode cX5_turn 70 = .ok (.iadd, 1) := by decide +kernel
theorem dX5_turn_71 : decode cX5_turn 71 = .ok (.istore 5, 2) := by decide +kernel
theorem dX5_turn_73 : decode cX5_turn 73 = .ok (.aload_n 0, 1) := by decide +kernel
theorem dX5_turn_74 : decode cX5_turn 74 = .ok (.getfield 9, 3) := by decide +kernel
theorem dX5_turn_77 : decode cX5_turn 77 = .ok (.iload_n 1, 1) := by decide +kernel
theorem dX5_turn_78 : decode cX5_turn 78 = .ok (.iconst 0, 1) := by decide +kernel
theorem dX5_turn_79 : decode cX5_turn 79 = .ok (.invokestatic 58, 3) := by decide +kernel
theorem dX5_turn_82 : decode cX5_turn 82 = .ok (.iload_n 2, 1) := by decide +kernel
theorem dX5_turn_83 : decode cX5_turn 83 = .ok (.iastore, 1) := by decide +kernel
theorem dX5_turn_84 : decode cX5_turn 84 = .ok (.aload_n 0, 1) := by decide +kernel
theorem dX5_turn_85 : decode cX5_turn 85 = .ok (.getfield 9, 3) := by decide +kernel
theorem dX5_turn_88 : decode cX5_turn 88 = .ok (.iload_n 1, 1) := by decide +kernel
theorem dX5_turn_89 : decode cX5_turn 89 = .ok (.iconst 1, 1) := by decide +kernel
theorem dX5_turn_90 : decode cX5_turn 90 = .ok (.invokestatic 58, 3) := by decide +kernel
theorem dX5_turn_93 : decode cX5_turn 93 = .ok (.iload_n 3, 1) := by decide +kernel
theorem dX5_turn_94 : decode cX5_turn 94 = .ok (.iastore, 1) := by decide +kernel
theorem dX5_turn_95 : decode cX5_turn 95 = .ok (.iload 5, 2) := by decide +kernel
theorem dX5_turn_97 : decode cX5_turn 97 = .ok (.ireturn, 1) := by decide +kernel
theorem dX5_days_0 : decode cX5_days 0 = .ok (.iload_n 1, 1) := by decide +kernel
theorem dX5_days_1 : decode cX5_days 1 = .ok (.iconst 1, 1) := by decide +kernel
theorem dX5_days_2 : decode cX5_days 2 = .ok (.if_icmp .ge 10, 3) := by decide +kernel
theorem dX5_days_5 : decode cX5_days 5 = .ok (.aload_n 0, 1) := by decide +kernel
theorem dX5_days_6 : decode cX5_days 6 = .ok (.bipush (-4), 2) := by decide +kernel
theorem dX5_days_8 : decode cX5_days 8 = .ok (.invokevirtual 42, 3) := by decide +kernel
theorem dX5_days_11 : decode cX5_days 11 = .ok (.ireturn, 1) := by decide +kernel
theorem dX5_days_12 : decode cX5_days 12 = .ok (.iload_n 1, 1) := by decide +kernel
theorem dX5_days_13 : decode cX5_days 13 = .ok (.bipush 60, 2) := by decide +kernel
theorem dX5_days_15 : decode cX5_days 15 = .ok (.if_icmp .gt 17, 3) := by decide +kernel
theorem dX5_days_18 : decode cX5_days 18 = .ok (.aload_n 0, 1) := by decide +kernel
theorem dX5_days_19 : decode cX5_days 19 = .ok (.getfield 9, 3) := by decide +kernel
theorem dX5_days_22 : decode cX5_days 22 = .ok (.iconst 1, 1) := by decide +kernel
theorem dX5_days_23 : decode cX5_days 23 = .ok (.iaload, 1) := by decide +kernel
theorem dX5_days_24 : decode cX5_days 24 = .ok (.iload_n 1, 1) := by decide +kernel
theorem dX5_days_25 : decode cX5_days 25 = .ok (.iadd, 1) := by decide +kernel
theorem dX5_days_26 : decode cX5_days 26 = .ok (.sipush 999, 3) := by decide +kernel
theorem dX5_days_29 : decode cX5_days 29 = .ok (.if_icmp .le 10, 3) := by decide +kernel
theorem dX5_days_32 : decode cX5_days 32 = .ok (.aload_n 0, 1) := by decide +kernel
theorem dX5_days_33 : decode cX5_days 33 = .ok (.bipush (-6), 2) := by decide +kernel
theorem dX5_days_35 : decode cX5_days 35 = .ok (.invokevirtual 42, 3) := by decide +kernel
theorem dX5_days_38 : decode cX5_days 38 = .ok (.ireturn, 1) := by decide +kernel
theorem dX5_days_39 : decode cX5_days 39 = .ok (.aload_n 0, 1) := by decide +kernel
theorem dX5_days_40 : decode cX5_days 40 = .ok (.aload_n 0, 1) := by decide +kernel
theorem dX5_days_41 : decode cX5_days 41 = .ok (.getfield 9, 3) := by decide +kernel
theorem dX5_days_44 : decode cX5_days 44 = .ok (.iload_n 1, 1) := by decide +kernel
theorem dX5_days_45 : decode cX5_days 45 = .ok (.invokevirtual 121, 3) := by decide +kernel
theorem dX5_days_48 : decode cX5_days 48 = .ok (.aload_n 0, 1) := by decide +kernel
theorem dX5_days_49 : decode cX5_days 49 = .ok (.getfield 9, 3) := by decide +kernel
theorem dX5_days_52 : decode cX5_days 52 = .ok (.invokestatic 141, 3) := by decide +kernel
theorem dX5_days_55 : decode cX5_days 55 = .ok (.invokestatic 145, 3) := by decide +kernel
theorem dX5_days_58 : decode cX5_days 58 = .ok (.ireturn, 1) := by decide +kernel
theorem dX5_takes_0 : decode cX5_takes 0 = .ok (.aload_n 0, 1) := by decide +kernel
theorem dX5_takes_1 : decode cX5_takes 1 = .ok (.getfield 9, 3) := by decide +kernel
theorem dX5_takes_4 : decode cX5_takes 4 = .ok (.aload_n 0, 1) := by decide +kernel
theorem dX5_takes_5 : decode cX5_takes 5 = .ok (.getfield 13, 3) := by decide +kernel
theorem dX5_takes_8 : decode cX5_takes 8 = .ok (.invokestatic 127, 3) := by decide +kernel
theorem dX5_takes_11 : decode cX5_takes 11 = .ok (.aload_n 0, 1) := by decide +kernel
theorem dX5_takes_12 : decode cX5_takes 12 = .ok (.aload_n 0, 1) := by decide +kernel
theorem dX5_takes_13 : decode cX5_takes 13 = .ok (.getfield 13, 3) := by decide +kernel
theorem dX5_takes_16 : decode cX5_takes 16 = .ok (.iload_n 1, 1) := by decide +kernel
theorem dX5_takes_17 : decode cX5_takes 17 = .ok (.invokevirtual 121, 3) := by decide +kernel
theorem dX5_takes_20 : decode cX5_takes 20 = .ok (.return_, 1) := by decide +kernel
theorem dX5_riderThen_0 : decode cX5_riderThen 0 = .ok (.aload_n 0, 1) := by decide +kernel
theorem dX5_riderThen_1 : decode cX5_riderThen 1 = .ok (.iload_n 1, 1) := by decide +kernel
theorem dX5_riderThen_2 : decode cX5_riderThen 2 = .ok (.invokevirtual 118, 3) := by decide +kernel
theorem dX5_riderThen_5 : decode cX5_riderThen 5 = .ok (.ifCond .eq 13, 3) := by decide +kernel
theorem dX5_riderThen_8 : decode cX5_riderThen 8 = .ok (.iload_n 2, 1) := by decide +kernel
theorem dX5_riderThen_9 : decode cX5_riderThen 9 = .ok (.iconst 0, 1) := by decide +kernel
theorem dX5_riderThen_10 : decode cX5_riderThen 10 = .ok (.bipush 60, 2) := by decide +kernel
theorem dX5_riderThen_12 : decode cX5_riderThen 12 = .ok (.invokestatic 138, 3) := by decide +kernel
theorem dX5_riderThen_15 : decode cX5_riderThen 15 = .ok (.goto 4, 3) := by decide +kernel
theorem dX5_riderThen_18 : decode cX5_riderThen 18 = .ok (.iconst (-1), 1) := by decide +kernel
theorem dX5_riderThen_19 : decode cX5_riderThen 19 = .ok (.istore 4, 2) := by decide +kernel
theorem dX5_riderThen_21 : decode cX5_riderThen 21 = .ok (.iload 4, 2) := by decide +kernel
theorem dX5_riderThen_23 : decode cX5_riderThen 23 = .ok (.ifCond .ne 16, 3) := by decide +kernel
theorem dX5_riderThen_26 : decode cX5_riderThen 26 = .ok (.iload_n 3, 1) := by decide +kernel
theorem dX5_riderThen_27 : decode cX5_riderThen 27 = .ok (.iconst 0, 1) := by decide +kernel
theorem dX5_riderThen_28 : decode cX5_riderThen 28 = .ok (.iconst 1, 1) := by decide +kernel
theorem dX5_riderThen_29 : decode cX5_riderThen 29 = .ok (.invokestatic 46, 3) := by decide +kernel
theorem dX5_riderThen_32 : decode cX5_riderThen 32 = .ok (.ifCond .ne 7, 3) := by decide +kernel
theorem dX5_riderThen_35 : decode cX5_riderThen 35 = .ok (.bipush (-2), 2) := by decide +kernel
theorem dX5_riderThen_37 : decode cX5_riderThen 37 = .ok (.istore 4, 2) := by decide +kernel
theorem dX5_riderThen_39 : decode cX5_riderThen 39 = .ok (.iload 4, 2) := by decide +kernel
theorem dX5_riderThen_41 : decode cX5_riderThen 41 = .ok (.ifCond .eq 10, 3) := by decide +kernel
theorem dX5_riderThen_44 : decode cX5_riderThen 44 = .ok (.aload_n 0, 1) := by decide +kernel
theorem dX5_riderThen_45 : decode cX5_riderThen 45 = .ok (.iload 4, 2) := by decide +kernel
theorem dX5_riderThen_47 : decode cX5_riderThen 47 = .ok (.invokevirtual 42, 3) := by decide +kernel
theorem dX5_riderThen_50 : decode cX5_riderThen 50 = .ok (.ireturn, 1) := by decide +kernel
theorem dX5_riderThen_51 : decode cX5_riderThen 51 = .ok (.aload_n 0, 1) := by decide +kernel
theorem dX5_riderThen_52 : decode cX5_riderThen 52 = .ok (.iload_n 2, 1) := by decide +kernel
theorem dX5_riderThen_53 : decode cX5_riderThen 53 = .ok (.invokevirtual 148, 3) := by decide +kernel
theorem dX5_riderThen_56 : decode cX5_riderThen 56 = .ok (.aload_n 0, 1) := by decide +kernel
theorem dX5_riderThen_57 : decode cX5_riderThen 57 = .ok (.getfield 13, 3) := by decide +kernel
theorem dX5_riderThen_60 : decode cX5_riderThen 60 = .ok (.iload_n 1, 1) := by decide +kernel
theorem dX5_riderThen_61 : decode cX5_riderThen 61 = .ok (.iconst 4, 1) := by decide +kernel
theorem dX5_riderThen_62 : decode cX5_riderThen 62 = .ok (.iload_n 3, 1) := by decide +kernel
theorem dX5_riderThen_63 : decode cX5_riderThen 63 = .ok (.iadd, 1) := by decide +kernel
theorem dX5_riderThen_64 : decode cX5_riderThen 64 = .ok (.invokestatic 58, 3) := by decide +kernel
theorem dX5_riderThen_67 : decode cX5_riderThen 67 = .ok (.iaload, 1) := by decide +kernel
theorem dX5_riderThen_68 : decode cX5_riderThen 68 = .ok (.ireturn, 1) := by decide +kernel
theorem dX5_comesIn_0 : decode cX5_comesIn 0 = .ok (.aload_n 0, 1) := by decide +kernel
theorem dX5_comesIn_1 : decode cX5_comesIn 1 = .ok (.aload_n 0, 1) := by decide +kernel
theorem dX5_comesIn_2 : decode cX5_comesIn 2 = .ok (.getfield 13, 3) := by decide +kernel
theorem dX5_comesIn_5 : decode cX5_comesIn 5 = .ok (.invokevirtual 72, 3) := by decide +kernel
theorem dX5_comesIn_8 : decode cX5_comesIn 8 = .ok (.iconst 0, 1) := by decide +kernel
theorem dX5_comesIn_9 : decode cX5_comesIn 9 = .ok (.istore_n 3, 1) := by decide +kernel
theorem dX5_comesIn_10 : decode cX5_comesIn 10 = .ok (.iload_n 3, 1) := by decide +kernel
theorem dX5_comesIn_11 : decode cX5_comesIn 11 = .ok (.bipush 60, 2) := by decide +kernel
theorem dX5_comesIn_13 : decode cX5_comesIn 13 = .ok (.if_icmp .gt 34, 3) := by decide +kernel
theorem dX5_comesIn_16 : decode cX5_comesIn 16 = .ok (.aload_n 0, 1) := by decide +kernel
theorem dX5_comesIn_17 : decode cX5_comesIn 17 = .ok (.getfield 13, 3) := by decide +kernel
theorem dX5_comesIn_20 : decode cX5_comesIn 20 = .ok (.iload_n 1, 1) := by decide +kernel
theorem dX5_comesIn_21 : decode cX5_comesIn 21 = .ok (.iconst 4, 1) := by decide +kernel
theorem dX5_comesIn_22 : decode cX5_comesIn 22 = .ok (.invokestatic 58, 3) := by decide +kernel
theorem dX5_comesIn_25 : decode cX5_comesIn 25 = .ok (.iaload, 1) := by decide +kernel
theorem dX5_comesIn_26 : decode cX5_comesIn 26 = .ok (.iload_n 2, 1) := by decide +kernel
theorem dX5_comesIn_27 : decode cX5_comesIn 27 = .ok (.if_icmp .ne 5, 3) := by decide +kernel
theorem dX5_comesIn_30 : decode cX5_comesIn 30 = .ok (.iload_n 3, 1) := by decide +kernel
theorem dX5_comesIn_31 : decode cX5_comesIn 31 = .ok (.ireturn, 1) := by decide +kernel
theorem dX5_comesIn_32 : decode cX5_comesIn 32 = .ok (.aload_n 0, 1) := by decide +kernel
theorem dX5_comesIn_33 : decode cX5_comesIn 33 = .ok (.aload_n 0, 1) := by decide +kernel
theorem dX5_comesIn_34 : decode cX5_comesIn 34 = .ok (.getfield 13, 3) := by decide +kernel
theorem dX5_comesIn_37 : decode cX5_comesIn 37 = .ok (.iconst 0, 1) := by decide +kernel
theorem dX5_comesIn_38 : decode cX5_comesIn 38 = .ok (.invokevirtual 76, 3) := by decide +kernel
theorem dX5_comesIn_41 : decode cX5_comesIn 41 = .ok (.iinc 3 1, 3) := by decide +kernel
theorem dX5_comesIn_44 : decode cX5_comesIn 44 = .ok (.goto (-34), 3) := by decide +kernel
theorem dX5_comesIn_47 : decode cX5_comesIn 47 = .ok (.bipush (-9), 2) := by decide +kernel
theorem dX5_comesIn_49 : decode cX5_comesIn 49 = .ok (.ireturn, 1) := by decide +kernel
theorem dX5_comesNow_0 : decode cX5_comesNow 0 = .ok (.aload_n 0, 1) := by decide +kernel
theorem dX5_comesNow_1 : decode cX5_comesNow 1 = .ok (.getfield 9, 3) := by decide +kernel
theorem dX5_comesNow_4 : decode cX5_comesNow 4 = .ok (.aload_n 0, 1) := by decide +kernel
theorem dX5_comesNow_5 : decode cX5_comesNow 5 = .ok (.getfield 13, 3) := by decide +kernel
theorem dX5_comesNow_8 : decode cX5_comesNow 8 = .ok (.invokestatic 127, 3) := by decide +kernel
theorem dX5_comesNow_11 : decode cX5_comesNow 11 = .ok (.aload_n 0, 1) := by decide +kernel
theorem dX5_comesNow_12 : decode cX5_comesNow 12 = .ok (.iload_n 1, 1) := by decide +kernel
theorem dX5_comesNow_13 : decode cX5_comesNow 13 = .ok (.iload_n 2, 1) := by decide +kernel
theorem dX5_comesNow_14 : decode cX5_comesNow 14 = .ok (.invokevirtual 152, 3) := by decide +kernel
theorem dX5_comesNow_17 : decode cX5_comesNow 17 = .ok (.ireturn, 1) := by decide +kernel
theorem dX5_areWrong_0 : decode cX5_areWrong 0 = .ok (.aload_n 0, 1) := by decide +kernel
theorem dX5_areWrong_1 : decode cX5_areWrong 1 = .ok (.iload_n 1, 1) := by decide +kernel
theorem dX5_areWrong_2 : decode cX5_areWrong 2 = .ok (.invokevirtual 118, 3) := by decide +kernel
theorem dX5_areWrong_5 : decode cX5_areWrong 5 = .ok (.ifCond .eq 10, 3) := by decide +kernel
theorem dX5_areWrong_8 : decode cX5_areWrong 8 = .ok (.iload_n 2, 1) := by decide +kernel
theorem dX5_areWrong_9 : decode cX5_areWrong 9 = .ok (.invokestatic 104, 3) := by decide +kernel
theorem dX5_areWrong_12 : decode cX5_areWrong 12 = .ok (.ifCond .ne 7, 3) := by decide +kernel
theorem dX5_areWrong_15 : decode cX5_areWrong 15 = .ok (.iconst 1, 1) := by decide +kernel
theorem dX5_areWrong_16 : decode cX5_areWrong 16 = .ok (.goto 4, 3) := by decide +kernel
theorem dX5_areWrong_19 : decode cX5_areWrong 19 = .ok (.iconst 0, 1) := by decide +kernel
theorem dX5_areWrong_20 : decode cX5_areWrong 20 = .ok (.ireturn, 1) := by decide +kernel
theorem dX5_comes_0 : decode cX5_comes 0 = .ok (.aload_n 0, 1) := by decide +kernel
theorem dX5_comes_1 : decode cX5_comes 1 = .ok (.iload_n 1, 1) := by decide +kernel
theorem dX5_comes_2 : decode cX5_comes 2 = .ok (.iload_n 2, 1) := by decide +kernel
theorem dX5_comes_3 : decode cX5_comes 3 = .ok (.invokevirtual 155, 3) := by decide +kernel
theorem dX5_comes_6 : decode cX5_comes 6 = .ok (.ifCond .eq 11, 3) := by decide +kernel
theorem dX5_comes_9 : decode cX5_comes 9 = .ok (.aload_n 0, 1) := by decide +kernel
theorem dX5_comes_10 : decode cX5_comes 10 = .ok (.iconst (-1), 1) := by decide +kernel
theorem dX5_comes_11 : decode cX5_comes 11 = .ok (.invokevirtual 42, 3) := by decide +kernel
theorem dX5_comes_14 : decode cX5_comes 14 = .ok (.goto 9, 3) := by decide +kernel
theorem dX5_comes_17 : decode cX5_comes 17 = .ok (.aload_n 0, 1) := by decide +kernel
theorem dX5_comes_18 : decode cX5_comes 18 = .ok (.iload_n 1, 1) := by decide +kernel
theorem dX5_comes_19 : decode cX5_comes 19 = .ok (.iload_n 2, 1) := by decide +kernel
theorem dX5_comes_20 : decode cX5_comes 20 = .ok (.invokevirtual 158, 3) := by decide +kernel
theorem dX5_comes_23 : decode cX5_comes 23 = .ok (.ireturn, 1) := by decide +kernel
theorem dX5_orNever_0 : decode cX5_orNever 0 = .ok (.iload_n 0, 1) := by decide +kernel
theorem dX5_orNever_1 : decode cX5_orNever 1 = .ok (.ifCond .ge 8, 3) := by decide +kernel
theorem dX5_orNever_4 : decode cX5_orNever 4 = .ok (.bipush 61, 2) := by decide +kernel
theorem dX5_orNever_6 : decode cX5_orNever 6 = .ok (.goto 4, 3) := by decide +kernel
theorem dX5_orNever_9 : decode cX5_orNever 9 = .ok (.iload_n 0, 1) := by decide +kernel
theorem dX5_orNever_10 : decode cX5_orNever 10 = .ok (.ireturn, 1) := by decide +kernel
theorem dX5_first_0 : decode cX5_first 0 = .ok (.iload_n 1, 1) := by decide +kernel
theorem dX5_first_1 : decode cX5_first 1 = .ok (.invokestatic 104, 3) := by decide +kernel
theorem dX5_first_4 : decode cX5_first 4 = .ok (.ifCond .ne 9, 3) := by decide +kernel
theorem dX5_first_7 : decode cX5_first 7 = .ok (.aload_n 0, 1) := by decide +kernel
theorem dX5_first_8 : decode cX5_first 8 = .ok (.iconst (-1), 1) := by decide +kernel
theorem dX5_first_9 : decode cX5_first 9 = .ok (.invokevirtual 42, 3) := by decide +kernel
theorem dX5_first_12 : decode cX5_first 12 = .ok (.ireturn, 1) := by decide +kernel
theorem dX5_first_13 : decode cX5_first 13 = .ok (.bipush (-9), 2) := by decide +kernel
theorem dX5_first_15 : decode cX5_first 15 = .ok (.istore_n 2, 1) := by decide +kernel
theorem dX5_first_16 : decode cX5_first 16 = .ok (.bipush 61, 2) := by decide +kernel
theorem dX5_first_18 : decode cX5_first 18 = .ok (.istore_n 3, 1) := by decide +kernel
theorem dX5_first_19 : decode cX5_first 19 = .ok (.iconst 0, 1) := by decide +kernel
theorem dX5_first_20 : decode cX5_first 20 = .ok (.istore 4, 2) := by decide +kernel
theorem dX5_first_22 : decode cX5_first 22 = .ok (.iload 4, 2) := by decide +kernel
theorem dX5_first_24 : decode cX5_first 24 = .ok (.aload_n 0, 1) := by decide +kernel
theorem dX5_first_25 : decode cX5_first 25 = .ok (.getfield 9, 3) := by decide +kernel
theorem dX5_first_28 : decode cX5_first 28 = .ok (.iconst 0, 1) := by decide +kernel
theorem dX5_first_29 : decode cX5_first 29 = .ok (.iaload, 1) := by decide +kernel
theorem dX5_first_30 : decode cX5_first 30 = .ok (.if_icmp .ge 36, 3) := by decide +kernel
theorem dX5_first_33 : decode cX5_first 33 = .ok (.aload_n 0, 1) := by decide +kernel
theorem dX5_first_34 : decode cX5_first 34 = .ok (.iload 4, 2) := by decide +kernel
theorem dX5_first_36 : decode cX5_first 36 = .ok (.iload_n 1, 1) := by decide +kernel
theorem dX5_first_37 : decode cX5_first 37 = .ok (.invokevirtual 158, 3) := by decide +kernel
theorem dX5_first_40 : decode cX5_first 40 = .ok (.invokestatic 161, 3) := by decide +kernel
theorem dX5_first_43 : decode cX5_first 43 = .ok (.istore 5, 2) := by decide +kernel
theorem dX5_first_45 : decode cX5_first 45 = .ok (.iload 5, 2) := by decide +kernel
theorem dX5_first_47 : decode cX5_first 47 = .ok (.iload_n 3, 1) := by decide +kernel
theorem dX5_first_48 : decode cX5_first 48 = .ok (.if_icmp .lt 6, 3) := by decide +kernel
theorem dX5_first_51 : decode cX5_first 51 = .ok (.goto 9, 3) := by decide +kernel
theorem dX5_first_54 : decode cX5_first 54 = .ok (.iload 4, 2) := by decide +kernel
theorem dX5_first_56 : decode cX5_first 56 = .ok (.istore_n 2, 1) := by decide +kernel
theorem dX5_first_57 : decode cX5_first 57 = .ok (.iload 5, 2) := by decide +kernel
theorem dX5_first_59 : decode cX5_first 59 = .ok (.istore_n 3, 1) := by decide +kernel
theorem dX5_first_60 : decode cX5_first 60 = .ok (.iinc 4 1, 3) := by decide +kernel
theorem dX5_first_63 : decode cX5_first 63 = .ok (.goto (-41), 3) := by decide +kernel
theorem dX5_first_66 : decode cX5_first 66 = .ok (.iload_n 2, 1) := by decide +kernel
theorem dX5_first_67 : decode cX5_first 67 = .ok (.ireturn, 1) := by decide +kernel
theorem dX5_isResting_0 : decode cX5_isResting 0 = .ok (.aload_n 0, 1) := by decide +kernel
theorem dX5_isResting_1 : decode cX5_isResting 1 = .ok (.iload_n 2, 1) := by decide +kernel
theorem dX5_isResting_2 : decode cX5_isResting 2 = .ok (.invokevirtual 148, 3) := by decide +kernel
theorem dX5_isResting_5 : decode cX5_isResting 5 = .ok (.aload_n 0, 1) := by decide +kernel
theorem dX5_isResting_6 : decode cX5_isResting 6 = .ok (.getfield 13, 3) := by decide +kernel
theorem dX5_isResting_9 : decode cX5_isResting 9 = .ok (.iload_n 1, 1) := by decide +kernel
theorem dX5_isResting_10 : decode cX5_isResting 10 = .ok (.iconst 4, 1) := by decide +kernel
theorem dX5_isResting_11 : decode cX5_isResting 11 = .ok (.invokestatic 58, 3) := by decide +kernel
theorem dX5_isResting_14 : decode cX5_isResting 14 = .ok (.iaload, 1) := by decide +kernel
theorem dX5_isResting_15 : decode cX5_isResting 15 = .ok (.istore_n 3, 1) := by decide +kernel
theorem dX5_isResting_16 : decode cX5_isResting 16 = .ok (.iconst 1, 1) := by decide +kernel
theorem dX5_isResting_17 : decode cX5_isResting 17 = .ok (.istore 4, 2) := by decide +kernel
theorem dX5_isResting_19 : decode cX5_isResting 19 = .ok (.iconst 0, 1) := by decide +kernel
theorem dX5_isResting_20 : decode cX5_isResting 20 = .ok (.istore 5, 2) := by decide +kernel
theorem dX5_isResting_22 : decode cX5_isResting 22 = .ok (.iload 5, 2) := by decide +kernel
theorem dX5_isResting_24 : decode cX5_isResting 24 = .ok (.iconst 5, 1) := by decide +kernel
theorem dX5_isResting_25 : decode cX5_isResting 25 = .ok (.if_icmp .ge 42, 3) := by decide +kernel
theorem dX5_isResting_28 : decode cX5_isResting 28 = .ok (.aload_n 0, 1) := by decide +kernel
theorem dX5_isResting_29 : decode cX5_isResting 29 = .ok (.aload_n 0, 1) := by decide +kernel
theorem dX5_isResting_30 : decode cX5_isResting 30 = .ok (.getfield 13, 3) := by decide +kernel
theorem dX5_isResting_33 : decode cX5_isResting 33 = .ok (.iconst 0, 1) := by decide +kernel
theorem dX5_isResting_34 : decode cX5_isResting 34 = .ok (.invokevirtual 76, 3) := by decide +kernel
theorem dX5_isResting_37 : decode cX5_isResting 37 = .ok (.iload 4, 2) := by decide +kernel
theorem dX5_isResting_39 : decode cX5_isResting 39 = .ok (.aload_n 0, 1) := by decide +kernel
theorem dX5_isResting_40 : decode cX5_isResting 40 = .ok (.getfield 13, 3) := by decide +kernel
theorem dX5_isResting_43 : decode cX5_isResting 43 = .ok (.iload_n 1, 1) := by decide +kernel
theorem dX5_isResting_44 : decode cX5_isResting 44 = .ok (.iconst 4, 1) := by decide +kernel
theorem dX5_isResting_45 : decode cX5_isResting 45 = .ok (.invokestatic 58, 3) := by decide +kernel
theorem dX5_isResting_48 : decode cX5_isResting 48 = .ok (.iaload, 1) := by decide +kernel
theorem dX5_isResting_49 : decode cX5_isResting 49 = .ok (.iload_n 3, 1) := by decide +kernel
theorem dX5_isResting_50 : decode cX5_isResting 50 = .ok (.if_icmp .ne 7, 3) := by decide +kernel
theorem dX5_isResting_53 : decode cX5_isResting 53 = .ok (.iconst 1, 1) := by decide +kernel
theorem dX5_isResting_54 : decode cX5_isResting 54 = .ok (.goto 4, 3) := by decide +kernel
theorem dX5_isResting_57 : decode cX5_isResting 57 = .ok (.iconst 0, 1) := by decide +kernel
theorem dX5_isResting_58 : decode cX5_isResting 58 = .ok (.iand, 1) := by decide +kernel
theorem dX5_isResting_59 : decode cX5_isResting 59 = .ok (.istore 4, 2) := by decide +kernel
theorem dX5_isResting_61 : decode cX5_isResting 61 = .ok (.iinc 5 1, 3) := by decide +kernel
theorem dX5_isResting_64 : decode cX5_isResting 64 = .ok (.goto (-42), 3) := by decide +kernel
theorem dX5_isResting_67 : decode cX5_isResting 67 = .ok (.iload 4, 2) := by decide +kernel
theorem dX5_isResting_69 : decode cX5_isResting 69 = .ok (.ireturn, 1) := by decide +kernel
theorem dX5_rests_0 : decode cX5_rests 0 = .ok (.aload_n 0, 1) := by decide +kernel
theorem dX5_rests_1 : decode cX5_rests 1 = .ok (.iload_n 1, 1) := by decide +kernel
theorem dX5_rests_2 : decode cX5_rests 2 = .ok (.invokevirtual 118, 3) := by decide +kernel
theorem dX5_rests_5 : decode cX5_rests 5 = .ok (.ifCond .ne 9, 3) := by decide +kernel
theorem dX5_rests_8 : decode cX5_rests 8 = .ok (.aload_n 0, 1) := by decide +kernel
theorem dX5_rests_9 : decode cX5_rests 9 = .ok (.iconst (-1), 1) := by decide +kernel
theorem dX5_rests_10 : decode cX5_rests 10 = .ok (.invokevirtual 42, 3) := by decide +kernel
theorem dX5_rests_13 : decode cX5_rests 13 = .ok (.ireturn, 1) := by decide +kernel
theorem dX5_rests_14 : decode cX5_rests 14 = .ok (.iconst 0, 1) := by decide +kernel
theorem dX5_rests_15 : decode cX5_rests 15 = .ok (.istore_n 2, 1) := by decide +kernel
theorem dX5_rests_16 : decode cX5_rests 16 = .ok (.iload_n 2, 1) := by decide +kernel
theorem dX5_rests_17 : decode cX5_rests 17 = .ok (.bipush 60, 2) := by decide +kernel
theorem dX5_rests_19 : decode cX5_rests 19 = .ok (.if_icmp .gt 20, 3) := by decide +kernel
theorem dX5_rests_22 : decode cX5_rests 22 = .ok (.aload_n 0, 1) := by decide +kernel
theorem dX5_rests_23 : decode cX5_rests 23 = .ok (.iload_n 1, 1) := by decide +kernel
theorem dX5_rests_24 : decode cX5_rests 24 = .ok (.iload_n 2, 1) := by decide +kernel
theorem dX5_rests_25 : decode cX5_rests 25 = .ok (.invokevirtual 164, 3) := by decide +kernel
theorem dX5_rests_28 : decode cX5_rests 28 = .ok (.ifCond .eq 5, 3) := by decide +kernel
theorem dX5_rests_31 : decode cX5_rests 31 = .ok (.iload_n 2, 1) := by decide +kernel
theorem dX5_rests_32 : decode cX5_rests 32 = .ok (.ireturn, 1) := by decide +kernel
theorem dX5_rests_33 : decode cX5_rests 33 = .ok (.iinc 2 1, 3) := by decide +kernel
theorem dX5_rests_36 : decode cX5_rests 36 = .ok (.goto (-20), 3) := by decide +kernel
theorem dX5_rests_39 : decode cX5_rests 39 = .ok (.bipush (-9), 2) := by decide +kernel
theorem dX5_rests_41 : decode cX5_rests 41 = .ok (.ireturn, 1) := by decide +kernel
theorem dX5_meet_0 : decode cX5_meet 0 = .ok (.aload_n 0, 1) := by decide +kernel
theorem dX5_meet_1 : decode cX5_meet 1 = .ok (.iload_n 1, 1) := by decide +kernel
theorem dX5_meet_2 : decode cX5_meet 2 = .ok (.invokevirtual 118, 3) := by decide +kernel
theorem dX5_meet_5 : decode cX5_meet 5 = .ok (.ifCond .eq 16, 3) := by decide +kernel
theorem dX5_meet_8 : decode cX5_meet 8 = .ok (.aload_n 0, 1) := by decide +kernel
theorem dX5_meet_9 : decode cX5_meet 9 = .ok (.iload_n 2, 1) := by decide +kernel
theorem dX5_meet_10 : decode cX5_meet 10 = .ok (.invokevirtual 118, 3) := by decide +kernel
theorem dX5_meet_13 : decode cX5_meet 13 = .ok (.ifCond .eq 8, 3) := by decide +kernel
theorem dX5_meet_16 : decode cX5_meet 16 = .ok (.iload_n 1, 1) := by decide +kernel
theorem dX5_meet_17 : decode cX5_meet 17 = .ok (.iload_n 2, 1) := by decide +kernel
theorem dX5_meet_18 : decode cX5_meet 18 = .ok (.if_icmp .ne 9, 3) := by decide +kernel
theorem dX5_meet_21 : decode cX5_meet 21 = .ok (.aload_n 0, 1) := by decide +kernel
theorem dX5_meet_22 : decode cX5_meet 22 = .ok (.iconst (-1), 1) := by decide +kernel
theorem dX5_meet_23 : decode cX5_meet 23 = .ok (.invokevirtual 42, 3) := by decide +kernel
theorem dX5_meet_26 : decode cX5_meet 26 = .ok (.ireturn, 1) := by decide +kernel
theorem dX5_meet_27 : decode cX5_meet 27 = .ok (.iload_n 3, 1) := by decide +kernel
theorem dX5_meet_28 : decode cX5_meet 28 = .ok (.iconst 0, 1) := by decide +kernel
theorem dX5_meet_29 : decode cX5_meet 29 = .ok (.iconst 1, 1) := by decide +kernel
theorem dX5_meet_30 : decode cX5_meet 30 = .ok (.invokestatic 46, 3) := by decide +kernel
theorem dX5_meet_33 : decode cX5_meet 33 = .ok (.ifCond .ne 10, 3) := by decide +kernel
theorem dX5_meet_36 : decode cX5_meet 36 = .ok (.aload_n 0, 1) := by decide +kernel
theorem dX5_meet_37 : decode cX5_meet 37 = .ok (.bipush (-2), 2) := by decide +kernel
theorem dX5_meet_39 : decode cX5_meet 39 = .ok (.invokevirtual 42, 3) := by decide +kernel
theorem dX5_meet_42 : decode cX5_meet 42 = .ok (.ireturn, 1) := by decide +kernel
theorem dX5_meet_43 : decode cX5_meet 43 = .ok (.aload_n 0, 1) := by decide +kernel
theorem dX5_meet_44 : decode cX5_meet 44 = .ok (.iconst 0, 1) := by decide +kernel
theorem dX5_meet_45 : decode cX5_meet 45 = .ok (.invokevirtual 148, 3) := by decide +kernel
theorem dX5_meet_48 : decode cX5_meet 48 = .ok (.iconst 0, 1) := by decide +kernel
theorem dX5_meet_49 : decode cX5_meet 49 = .ok (.istore 4, 2) := by decide +kernel
theorem dX5_meet_51 : decode cX5_meet 51 = .ok (.iload 4, 2) := by decide +kernel
theorem dX5_meet_53 : decode cX5_meet 53 = .ok (.bipush 60, 2) := by decide +kernel
theorem dX5_meet_55 : decode cX5_meet 55 = .ok (.if_icmp .gt 61, 3) := by decide +kernel
theorem dX5_meet_58 : decode cX5_meet 58 = .ok (.aload_n 0, 1) := by decide +kernel
theorem dX5_meet_59 : decode cX5_meet 59 = .ok (.getfield 13, 3) := by decide +kernel
theorem dX5_meet_62 : decode cX5_meet 62 = .ok (.iload_n 1, 1) := by decide +kernel
theorem dX5_meet_63 : decode cX5_meet 63 = .ok (.iconst 4, 1) := by decide +kernel
theorem dX5_meet_64 : decode cX5_meet 64 = .ok (.invokestatic 58, 3) := by decide +kernel
theorem dX5_meet_67 : decode cX5_meet 67 = .ok (.iaload, 1) := by decide +kernel
theorem dX5_meet_68 : decode cX5_meet 68 = .ok (.aload_n 0, 1) := by decide +kernel
theorem dX5_meet_69 : decode cX5_meet 69 = .ok (.getfield 13, 3) := by decide +kernel
theorem dX5_meet_72 : decode cX5_meet 72 = .ok (.iload_n 2, 1) := by decide +kernel
theorem dX5_meet_73 : decode cX5_meet 73 = .ok (.iconst 4, 1) := by decide +kernel
theorem dX5_meet_74 : decode cX5_meet 74 = .ok (.invokestatic 58, 3) := by decide +kernel
theorem dX5_meet_77 : decode cX5_meet 77 = .ok (.iaload, 1) := by decide +kernel
theorem dX5_meet_78 : decode cX5_meet 78 = .ok (.if_icmp .ne 23, 3) := by decide +kernel
theorem dX5_meet_81 : decode cX5_meet 81 = .ok (.iload_n 3, 1) := by decide +kernel
theorem dX5_meet_82 : decode cX5_meet 82 = .ok (.ifCond .ne 8, 3) := by decide +kernel
theorem dX5_meet_85 : decode cX5_meet 85 = .ok (.iload 4, 2) := by decide +kernel
theorem dX5_meet_87 : decode cX5_meet 87 = .ok (.goto 13, 3) := by decide +kernel
theorem dX5_meet_90 : decode cX5_meet 90 = .ok (.aload_n 0, 1) := by decide +kernel
theorem dX5_meet_91 : decode cX5_meet 91 = .ok (.getfield 13, 3) := by decide +kernel
theorem dX5_meet_94 : decode cX5_meet 94 = .ok (.iload_n 1, 1) := by decide +kernel
theorem dX5_meet_95 : decode cX5_meet 95 = .ok (.iconst 4, 1) := by decide +kernel
theorem dX5_meet_96 : decode cX5_meet 96 = .ok (.invokestatic 58, 3) := by decide +kernel
theorem dX5_meet_99 : decode cX5_meet 99 = .ok (.iaload, 1) := by decide +kernel
theorem dX5_meet_100 : decode cX5_meet 100 = .ok (.ireturn, 1) := by decide +kernel
theorem dX5_meet_101 : decode cX5_meet 101 = .ok (.aload_n 0, 1) := by decide +kernel
theorem dX5_meet_102 : decode cX5_meet 102 = .ok (.aload_n 0, 1) := by decide +kernel
theorem dX5_meet_103 : decode cX5_meet 103 = .ok (.getfield 13, 3) := by decide +kernel
theorem dX5_meet_106 : decode cX5_meet 106 = .ok (.iconst 0, 1) := by decide +kernel
theorem dX5_meet_107 : decode cX5_meet 107 = .ok (.invokevirtual 76, 3) := by decide +kernel
theorem dX5_meet_110 : decode cX5_meet 110 = .ok (.iinc 4 1, 3) := by decide +kernel
theorem dX5_meet_113 : decode cX5_meet 113 = .ok (.goto (-62), 3) := by decide +kernel
theorem dX5_meet_116 : decode cX5_meet 116 = .ok (.bipush (-9), 2) := by decide +kernel
theorem dX5_meet_118 : decode cX5_meet 118 = .ok (.ireturn, 1) := by decide +kernel
theorem dX5_arrived_0 : decode cX5_arrived 0 = .ok (.aload_n 0, 1) := by decide +kernel
theorem dX5_arrived_1 : decode cX5_arrived 1 = .ok (.iconst 0, 1) := by decide +kernel
theorem dX5_arrived_2 : decode cX5_arrived 2 = .ok (.invokevirtual 148, 3) := by decide +kernel
theorem dX5_arrived_5 : decode cX5_arrived 5 = .ok (.iconst 0, 1) := by decide +kernel
theorem dX5_arrived_6 : decode cX5_arrived 6 = .ok (.istore_n 1, 1) := by decide +kernel
theorem dX5_arrived_7 : decode cX5_arrived 7 = .ok (.iload_n 1, 1) := by decide +kernel
theorem dX5_arrived_8 : decode cX5_arrived 8 = .ok (.bipush 60, 2) := by decide +kernel
theorem dX5_arrived_10 : decode cX5_arrived 10 = .ok (.if_icmp .gt 39, 3) := by decide +kernel
theorem dX5_arrived_13 : decode cX5_arrived 13 = .ok (.aload_n 0, 1) := by decide +kernel
theorem dX5_arrived_14 : decode cX5_arrived 14 = .ok (.getfield 13, 3) := by decide +kernel
theorem dX5_arrived_17 : decode cX5_arrived 17 = .ok (.invokestatic 141, 3) := by decide +kernel
theorem dX5_arrived_20 : decode cX5_arrived 20 = .ok (.invokestatic 145, 3) := by decide +kernel
theorem dX5_arrived_23 : decode cX5_arrived 23 = .ok (.aload_n 0, 1) := by decide +kernel
theorem dX5_arrived_24 : decode cX5_arrived 24 = .ok (.getfield 13, 3) := by decide +kernel
theorem dX5_arrived_27 : decode cX5_arrived 27 = .ok (.iconst 0, 1) := by decide +kernel
theorem dX5_arrived_28 : decode cX5_arrived 28 = .ok (.iaload, 1) := by decide +kernel
theorem dX5_arrived_29 : decode cX5_arrived 29 = .ok (.if_icmp .ne 5, 3) := by decide +kernel
theorem dX5_arrived_32 : decode cX5_arrived 32 = .ok (.iload_n 1, 1) := by decide +kernel
theorem dX5_arrived_33 : decode cX5_arrived 33 = .ok (.ireturn, 1) := by decide +kernel
theorem dX5_arrived_34 : decode cX5_arrived 34 = .ok (.aload_n 0, 1) := by decide +kernel
theorem dX5_arrived_35 : decode cX5_arrived 35 = .ok (.aload_n 0, 1) := by decide +kernel
theorem dX5_arrived_36 : decode cX5_arrived 36 = .ok (.getfield 13, 3) := by decide +kernel
theorem dX5_arrived_39 : decode cX5_arrived 39 = .ok (.iconst 0, 1) := by decide +kernel
theorem dX5_arrived_40 : decode cX5_arrived 40 = .ok (.invokevirtual 76, 3) := by decide +kernel
theorem dX5_arrived_43 : decode cX5_arrived 43 = .ok (.iinc 1 1, 3) := by decide +kernel
theorem dX5_arrived_46 : decode cX5_arrived 46 = .ok (.goto (-39), 3) := by decide +kernel
theorem dX5_arrived_49 : decode cX5_arrived 49 = .ok (.bipush (-9), 2) := by decide +kernel
theorem dX5_arrived_51 : decode cX5_arrived 51 = .ok (.ireturn, 1) := by decide +kernel
theorem dX5_shoe_0 : decode cX5_shoe 0 = .ok (.aload_n 0, 1) := by decide +kernel
theorem dX5_shoe_1 : decode cX5_shoe 1 = .ok (.iload_n 1, 1) := by decide +kernel
theorem dX5_shoe_2 : decode cX5_shoe 2 = .ok (.iload_n 2, 1) := by decide +kernel
theorem dX5_shoe_3 : decode cX5_shoe 3 = .ok (.invokevirtual 155, 3) := by decide +kernel
theorem dX5_shoe_6 : decode cX5_shoe 6 = .ok (.ifCond .eq 9, 3) := by decide +kernel
theorem dX5_shoe_9 : decode cX5_shoe 9 = .ok (.aload_n 0, 1) := by decide +kernel
theorem dX5_shoe_10 : decode cX5_shoe 10 = .ok (.iconst (-1), 1) := by decide +kernel
theorem dX5_shoe_11 : decode cX5_shoe 11 = .ok (.invokevirtual 42, 3) := by decide +kernel
theorem dX5_shoe_14 : decode cX5_shoe 14 = .ok (.ireturn, 1) := by decide +kernel
theorem dX5_shoe_15 : decode cX5_shoe 15 = .ok (.iload_n 3, 1) := by decide +kernel
theorem dX5_shoe_16 : decode cX5_shoe 16 = .ok (.iconst 0, 1) := by decide +kernel
theorem dX5_shoe_17 : decode cX5_shoe 17 = .ok (.iconst 1, 1) := by decide +kernel
theorem dX5_shoe_18 : decode cX5_shoe 18 = .ok (.invokestatic 46, 3) := by decide +kernel
theorem dX5_shoe_21 : decode cX5_shoe 21 = .ok (.ifCond .ne 10, 3) := by decide +kernel
theorem dX5_shoe_24 : decode cX5_shoe 24 = .ok (.aload_n 0, 1) := by decide +kernel
theorem dX5_shoe_25 : decode cX5_shoe 25 = .ok (.bipush (-2), 2) := by decide +kernel
theorem dX5_shoe_27 : decode cX5_shoe 27 = .ok (.invokevirtual 42, 3) := by decide +kernel
theorem dX5_shoe_30 : decode cX5_shoe 30 = .ok (.ireturn, 1) := by decide +kernel
theorem dX5_shoe_31 : decode cX5_shoe 31 = .ok (.bipush (-9), 2) := by decide +kernel
theorem dX5_shoe_33 : decode cX5_shoe 33 = .ok (.istore 4, 2) := by decide +kernel
theorem dX5_shoe_35 : decode cX5_shoe 35 = .ok (.bipush 61, 2) := by decide +kernel
theorem dX5_shoe_37 : decode cX5_shoe 37 = .ok (.istore 5, 2) := by decide +kernel
theorem dX5_shoe_39 : decode cX5_shoe 39 = .ok (.iconst 0, 1) := by decide +kernel
theorem dX5_shoe_40 : decode cX5_shoe 40 = .ok (.istore 6, 2) := by decide +kernel
theorem dX5_shoe_42 : decode cX5_shoe 42 = .ok (.iload 6, 2) := by decide +kernel
theorem dX5_shoe_44 : decode cX5_shoe 44 = .ok (.iconst 5, 1) := by decide +kernel
theorem dX5_shoe_45 : decode cX5_shoe 45 = .ok (.if_icmp .ge 61, 3) := by decide +kernel
theorem dX5_shoe_48 : decode cX5_shoe 48 = .ok (.aload_n 0, 1) := by decide +kernel
theorem dX5_shoe_49 : decode cX5_shoe 49 = .ok (.getfield 9, 3) := by decide +kernel
theorem dX5_shoe_52 : decode cX5_shoe 52 = .ok (.aload_n 0, 1) := by decide +kernel
theorem dX5_shoe_53 : decode cX5_shoe 53 = .ok (.getfield 13, 3) := by decide +kernel
theorem dX5_shoe_56 : decode cX5_shoe 56 = .ok (.invokestatic 127, 3) := by decide +kernel
theorem dX5_shoe_59 : decode cX5_shoe 59 = .ok (.aload_n 0, 1) := by decide +kernel
theorem dX5_shoe_60 : decode cX5_shoe 60 = .ok (.getfield 13, 3) := by decide +kernel
theorem dX5_shoe_63 : decode cX5_shoe 63 = .ok (.iload_n 1, 1) := by decide +kernel
theorem dX5_shoe_64 : decode cX5_shoe 64 = .ok (.iconst 5, 1) := by decide +kernel
theorem dX5_shoe_65 : decode cX5_shoe 65 = .ok (.invokestatic 58, 3) := by decide +kernel
theorem dX5_shoe_68 : decode cX5_shoe 68 = .ok (.iload 6, 2) := by decide +kernel
theorem dX5_shoe_70 : decode cX5_shoe 70 = .ok (.iastore, 1) := by decide +kernel
theorem dX5_shoe_71 : decode cX5_shoe 71 = .ok (.aload_n 0, 1) := by decide +kernel
theorem dX5_shoe_72 : decode cX5_shoe 72 = .ok (.iload_n 1, 1) := by decide +kernel
theorem dX5_shoe_73 : decode cX5_shoe 73 = .ok (.iload_n 2, 1) := by decide +kernel
theorem dX5_shoe_74 : decode cX5_shoe 74 = .ok (.invokevirtual 152, 3) := by decide +kernel
theorem dX5_shoe_77 : decode cX5_shoe 77 = .ok (.invokestatic 161, 3) := by decide +kernel
theorem dX5_shoe_80 : decode cX5_shoe 80 = .ok (.istore 7, 2) := by decide +kernel
theorem dX5_shoe_82 : decode cX5_shoe 82 = .ok (.iload 7, 2) := by decide +kernel
theorem dX5_shoe_84 : decode cX5_shoe 84 = .ok (.iload 5, 2) := by decide +kernel
theorem dX5_shoe_86 : decode cX5_shoe 86 = .ok (.if_icmp .lt 6, 3) := by decide +kernel
theorem dX5_shoe_89 : decode cX5_shoe 89 = .ok (.goto 11, 3) := by decide +kernel
theorem dX5_shoe_92 : decode cX5_shoe 92 = .ok (.iload 6, 2) := by decide +kernel
theorem dX5_shoe_94 : decode cX5_shoe 94 = .ok (.istore 4, 2) := by decide +kernel
theorem dX5_shoe_96 : decode cX5_shoe 96 = .ok (.iload 7, 2) := by decide +kernel
theorem dX5_shoe_98 : decode cX5_shoe 98 = .ok (.istore 5, 2) := by decide +kernel
theorem dX5_shoe_100 : decode cX5_shoe 100 = .ok (.iinc 6 1, 3) := by decide +kernel
theorem dX5_shoe_103 : decode cX5_shoe 103 = .ok (.goto (-61), 3) := by decide +kernel
theorem dX5_shoe_106 : decode cX5_shoe 106 = .ok (.iload 4, 2) := by decide +kernel
theorem dX5_shoe_108 : decode cX5_shoe 108 = .ok (.ifCond .lt 7, 3) := by decide +kernel
theorem dX5_shoe_111 : decode cX5_shoe 111 = .ok (.iload_n 3, 1) := by decide +kernel
theorem dX5_shoe_112 : decode cX5_shoe 112 = .ok (.ifCond .ne 8, 3) := by decide +kernel
theorem dX5_shoe_115 : decode cX5_shoe 115 = .ok (.iload 4, 2) := by decide +kernel
theorem dX5_shoe_117 : decode cX5_shoe 117 = .ok (.goto 5, 3) := by decide +kernel
theorem dX5_shoe_120 : decode cX5_shoe 120 = .ok (.iload 5, 2) := by decide +kernel
theorem dX5_shoe_122 : decode cX5_shoe 122 = .ok (.ireturn, 1) := by decide +kernel
theorem dX5_wish_0 : decode cX5_wish 0 = .ok (.aload_n 0, 1) := by decide +kernel
theorem dX5_wish_1 : decode cX5_wish 1 = .ok (.iload_n 1, 1) := by decide +kernel
theorem dX5_wish_2 : decode cX5_wish 2 = .ok (.iload_n 2, 1) := by decide +kernel
theorem dX5_wish_3 : decode cX5_wish 3 = .ok (.invokevirtual 155, 3) := by decide +kernel
theorem dX5_wish_6 : decode cX5_wish 6 = .ok (.ifCond .eq 9, 3) := by decide +kernel
theorem dX5_wish_9 : decode cX5_wish 9 = .ok (.aload_n 0, 1) := by decide +kernel
theorem dX5_wish_10 : decode cX5_wish 10 = .ok (.iconst (-1), 1) := by decide +kernel
theorem dX5_wish_11 : decode cX5_wish 11 = .ok (.invokevirtual 42, 3) := by decide +kernel
theorem dX5_wish_14 : decode cX5_wish 14 = .ok (.ireturn, 1) := by decide +kernel
theorem dX5_wish_15 : decode cX5_wish 15 = .ok (.aload_n 0, 1) := by decide +kernel
theorem dX5_wish_16 : decode cX5_wish 16 = .ok (.iload_n 1, 1) := by decide +kernel
theorem dX5_wish_17 : decode cX5_wish 17 = .ok (.iload_n 2, 1) := by decide +kernel
theorem dX5_wish_18 : decode cX5_wish 18 = .ok (.invokevirtual 158, 3) := by decide +kernel
theorem dX5_wish_21 : decode cX5_wish 21 = .ok (.invokestatic 161, 3) := by decide +kernel
theorem dX5_wish_24 : decode cX5_wish 24 = .ok (.istore_n 3, 1) := by decide +kernel
theorem dX5_wish_25 : decode cX5_wish 25 = .ok (.bipush (-9), 2) := by decide +kernel
theorem dX5_wish_27 : decode cX5_wish 27 = .ok (.istore 4, 2) := by decide +kernel
theorem dX5_wish_29 : decode cX5_wish 29 = .ok (.iconst 0, 1) := by decide +kernel
theorem dX5_wish_30 : decode cX5_wish 30 = .ok (.istore 5, 2) := by decide +kernel
theorem dX5_wish_32 : decode cX5_wish 32 = .ok (.iload 5, 2) := by decide +kernel
theorem dX5_wish_34 : decode cX5_wish 34 = .ok (.bipush 8, 2) := by decide +kernel
theorem dX5_wish_36 : decode cX5_wish 36 = .ok (.if_icmp .ge 59, 3) := by decide +kernel
theorem dX5_wish_39 : decode cX5_wish 39 = .ok (.aload_n 0, 1) := by decide +kernel
theorem dX5_wish_40 : decode cX5_wish 40 = .ok (.getfield 9, 3) := by decide +kernel
theorem dX5_wish_43 : decode cX5_wish 43 = .ok (.aload_n 0, 1) := by decide +kernel
theorem dX5_wish_44 : decode cX5_wish 44 = .ok (.getfield 13, 3) := by decide +kernel
theorem dX5_wish_47 : decode cX5_wish 47 = .ok (.invokestatic 127, 3) := by decide +kernel
theorem dX5_wish_50 : decode cX5_wish 50 = .ok (.aload_n 0, 1) := by decide +kernel
theorem dX5_wish_51 : decode cX5_wish 51 = .ok (.getfield 13, 3) := by decide +kernel
theorem dX5_wish_54 : decode cX5_wish 54 = .ok (.iload_n 1, 1) := by decide +kernel
theorem dX5_wish_55 : decode cX5_wish 55 = .ok (.iconst 2, 1) := by decide +kernel
theorem dX5_wish_56 : decode cX5_wish 56 = .ok (.invokestatic 58, 3) := by decide +kernel
theorem dX5_wish_59 : decode cX5_wish 59 = .ok (.iload 5, 2) := by decide +kernel
theorem dX5_wish_61 : decode cX5_wish 61 = .ok (.iastore, 1) := by decide +kernel
theorem dX5_wish_62 : decode cX5_wish 62 = .ok (.aload_n 0, 1) := by decide +kernel
theorem dX5_wish_63 : decode cX5_wish 63 = .ok (.iload_n 1, 1) := by decide +kernel
theorem dX5_wish_64 : decode cX5_wish 64 = .ok (.iload_n 2, 1) := by decide +kernel
theorem dX5_wish_65 : decode cX5_wish 65 = .ok (.invokevirtual 152, 3) := by decide +kernel
theorem dX5_wish_68 : decode cX5_wish 68 = .ok (.invokestatic 161, 3) := by decide +kernel
theorem dX5_wish_71 : decode cX5_wish 71 = .ok (.istore 6, 2) := by decide +kernel
theorem dX5_wish_73 : decode cX5_wish 73 = .ok (.iload 6, 2) := by decide +kernel
theorem dX5_wish_75 : decode cX5_wish 75 = .ok (.iload_n 3, 1) := by decide +kernel
theorem dX5_wish_76 : decode cX5_wish 76 = .ok (.if_icmp .lt 6, 3) := by decide +kernel
theorem dX5_wish_79 : decode cX5_wish 79 = .ok (.goto 10, 3) := by decide +kernel
theorem dX5_wish_82 : decode cX5_wish 82 = .ok (.iload 5, 2) := by decide +kernel
theorem dX5_wish_84 : decode cX5_wish 84 = .ok (.istore 4, 2) := by decide +kernel
theorem dX5_wish_86 : decode cX5_wish 86 = .ok (.iload 6, 2) := by decide +kernel
theorem dX5_wish_88 : decode cX5_wish 88 = .ok (.istore_n 3, 1) := by decide +kernel
theorem dX5_wish_89 : decode cX5_wish 89 = .ok (.iinc 5 1, 3) := by decide +kernel
theorem dX5_wish_92 : decode cX5_wish 92 = .ok (.goto (-60), 3) := by decide +kernel
theorem dX5_wish_95 : decode cX5_wish 95 = .ok (.iload 4, 2) := by decide +kernel
theorem dX5_wish_97 : decode cX5_wish 97 = .ok (.ireturn, 1) := by decide +kernel
theorem dX5_comesTurned_0 : decode cX5_comesTurned 0 = .ok (.aload_n 0, 1) := by decide +kernel
theorem dX5_comesTurned_1 : decode cX5_comesTurned 1 = .ok (.getfield 9, 3) := by decide +kernel
theorem dX5_comesTurned_4 : decode cX5_comesTurned 4 = .ok (.aload_n 0, 1) := by decide +kernel
theorem dX5_comesTurned_5 : decode cX5_comesTurned 5 = .ok (.getfield 13, 3) := by decide +kernel
theorem dX5_comesTurned_8 : decode cX5_comesTurned 8 = .ok (.invokestatic 127, 3) := by decide +kernel
theorem dX5_comesTurned_11 : decode cX5_comesTurned 11 = .ok (.aload_n 0, 1) := by decide +kernel
theorem dX5_comesTurned_12 : decode cX5_comesTurned 12 = .ok (.getfield 13, 3) := by decide +kernel
theorem dX5_comesTurned_15 : decode cX5_comesTurned 15 = .ok (.iload_n 3, 1) := by decide +kernel
theorem dX5_comesTurned_16 : decode cX5_comesTurned 16 = .ok (.iload 4, 2) := by decide +kernel
theorem dX5_comesTurned_18 : decode cX5_comesTurned 18 = .ok (.invokestatic 111, 3) := by decide +kernel
theorem dX5_comesTurned_21 : decode cX5_comesTurned 21 = .ok (.aload_n 0, 1) := by decide +kernel
theorem dX5_comesTurned_22 : decode cX5_comesTurned 22 = .ok (.iload_n 1, 1) := by decide +kernel
theorem dX5_comesTurned_23 : decode cX5_comesTurned 23 = .ok (.iload_n 2, 1) := by decide +kernel
theorem dX5_comesTurned_24 : decode cX5_comesTurned 24 = .ok (.invokevirtual 152, 3) := by decide +kernel
theorem dX5_comesTurned_27 : decode cX5_comesTurned 27 = .ok (.invokestatic 161, 3) := by decide +kernel
theorem dX5_comesTurned_30 : decode cX5_comesTurned 30 = .ok (.ireturn, 1) := by decide +kernel
theorem dX5_road_0 : decode cX5_road 0 = .ok (.aload_n 0, 1) := by decide +kernel
theorem dX5_road_1 : decode cX5_road 1 = .ok (.iload_n 1, 1) := by decide +kernel
theorem dX5_road_2 : decode cX5_road 2 = .ok (.iload_n 2, 1) := by decide +kernel
theorem dX5_road_3 : decode cX5_road 3 = .ok (.invokevirtual 155, 3) := by decide +kernel
theorem dX5_road_6 : decode cX5_road 6 = .ok (.ifCond .eq 9, 3) := by decide +kernel
theorem dX5_road_9 : decode cX5_road 9 = .ok (.aload_n 0, 1) := by decide +kernel
theorem dX5_road_10 : decode cX5_road 10 = .ok (.iconst (-1), 1) := by decide +kernel
theorem dX5_road_11 : decode cX5_road 11 = .ok (.invokevirtual 42, 3) := by decide +kernel
theorem dX5_road_14 : decode cX5_road 14 = .ok (.ireturn, 1) := by decide +kernel
theorem dX5_road_15 : decode cX5_road 15 = .ok (.aload_n 0, 1) := by decide +kernel
theorem dX5_road_16 : decode cX5_road 16 = .ok (.iload_n 1, 1) := by decide +kernel
theorem dX5_road_17 : decode cX5_road 17 = .ok (.iload_n 2, 1) := by decide +kernel
theorem dX5_road_18 : decode cX5_road 18 = .ok (.invokevirtual 158, 3) := by decide +kernel
theorem dX5_road_21 : decode cX5_road 21 = .ok (.invokestatic 161, 3) := by decide +kernel
theorem dX5_road_24 : decode cX5_road 24 = .ok (.istore_n 3, 1) := by decide +kernel
theorem dX5_road_25 : decode cX5_road 25 = .ok (.bipush (-9), 2) := by decide +kernel
theorem dX5_road_27 : decode cX5_road 27 = .ok (.istore 4, 2) := by decide +kernel
theorem dX5_road_29 : decode cX5_road 29 = .ok (.iconst 0, 1) := by decide +kernel
theorem dX5_road_30 : decode cX5_road 30 = .ok (.istore 5, 2) := by decide +kernel
theorem dX5_road_32 : decode cX5_road 32 = .ok (.iload 5, 2) := by decide +kernel
theorem dX5_road_34 : decode cX5_road 34 = .ok (.bipush 8, 2) := by decide +kernel
theorem dX5_road_36 : decode cX5_road 36 = .ok (.if_icmp .ge 83, 3) := by decide +kernel
theorem dX5_road_39 : decode cX5_road 39 = .ok (.iload 5, 2) := by decide +kernel
theorem dX5_road_41 : decode cX5_road 41 = .ok (.iconst 1, 1) := by decide +kernel
theorem dX5_road_42 : decode cX5_road 42 = .ok (.iadd, 1) := by decide +kernel
theorem dX5_road_43 : decode cX5_road 43 = .ok (.istore 6, 2) := by decide +kernel
theorem dX5_road_45 : decode cX5_road 45 = .ok (.iload 6, 2) := by decide +kernel
theorem dX5_road_47 : decode cX5_road 47 = .ok (.bipush 8, 2) := by decide +kernel
theorem dX5_road_49 : decode cX5_road 49 = .ok (.if_icmp .ge 64, 3) := by decide +kernel
theorem dX5_road_52 : decode cX5_road 52 = .ok (.aload_n 0, 1) := by decide +kernel
theorem dX5_road_53 : decode cX5_road 53 = .ok (.getfield 9, 3) := by decide +kernel
theorem dX5_road_56 : decode cX5_road 56 = .ok (.iconst 2, 1) := by decide +kernel
theorem dX5_road_57 : decode cX5_road 57 = .ok (.iload 5, 2) := by decide +kernel
theorem dX5_road_59 : decode cX5_road 59 = .ok (.iadd, 1) := by decide +kernel
theorem dX5_road_60 : decode cX5_road 60 = .ok (.iaload, 1) := by decide +kernel
theorem dX5_road_61 : decode cX5_road 61 = .ok (.iload 6, 2) := by decide +kernel
theorem dX5_road_63 : decode cX5_road 63 = .ok (.invokestatic 50, 3) := by decide +kernel
theorem dX5_road_66 : decode cX5_road 66 = .ok (.ifCond .eq 7, 3) := by decide +kernel
theorem dX5_road_69 : decode cX5_road 69 = .ok (.iload_n 3, 1) := by decide +kernel
theorem dX5_road_70 : decode cX5_road 70 = .ok (.goto 13, 3) := by decide +kernel
theorem dX5_road_73 : decode cX5_road 73 = .ok (.aload_n 0, 1) := by decide +kernel
theorem dX5_road_74 : decode cX5_road 74 = .ok (.iload_n 1, 1) := by decide +kernel
theorem dX5_road_75 : decode cX5_road 75 = .ok (.iload_n 2, 1) := by decide +kernel
theorem dX5_road_76 : decode cX5_road 76 = .ok (.iload 5, 2) := by decide +kernel
theorem dX5_road_78 : decode cX5_road 78 = .ok (.iload 6, 2) := by decide +kernel
theorem dX5_road_80 : decode cX5_road 80 = .ok (.invokevirtual 167, 3) := by decide +kernel
theorem dX5_road_83 : decode cX5_road 83 = .ok (.istore 7, 2) := by decide +kernel
theorem dX5_road_85 : decode cX5_road 85 = .ok (.iload 7, 2) := by decide +kernel
theorem dX5_road_87 : decode cX5_road 87 = .ok (.iload_n 3, 1) := by decide +kernel
theorem dX5_road_88 : decode cX5_road 88 = .ok (.if_icmp .lt 6, 3) := by decide +kernel
theorem dX5_road_91 : decode cX5_road 91 = .ok (.goto 16, 3) := by decide +kernel
theorem dX5_road_94 : decode cX5_road 94 = .ok (.bipush 10, 2) := by decide +kernel
theorem dX5_road_96 : decode cX5_road 96 = .ok (.iload 5, 2) := by decide +kernel
theorem dX5_road_98 : decode cX5_road 98 = .ok (.imul, 1) := by decide +kernel
theorem dX5_road_99 : decode cX5_road 99 = .ok (.iload 6, 2) := by decide +kernel
theorem dX5_road_101 : decode cX5_road 101 = .ok (.iadd, 1) := by decide +kernel
theorem dX5_road_102 : decode cX5_road 102 = .ok (.istore 4, 2) := by decide +kernel
theorem dX5_road_104 : decode cX5_road 104 = .ok (.iload 7, 2) := by decide +kernel
theorem dX5_road_106 : decode cX5_road 106 = .ok (.istore_n 3, 1) := by decide +kernel
theorem dX5_road_107 : decode cX5_road 107 = .ok (.iinc 6 1, 3) := by decide +kernel
theorem dX5_road_110 : decode cX5_road 110 = .ok (.goto (-65), 3) := by decide +kernel
theorem dX5_road_113 : decode cX5_road 113 = .ok (.iinc 5 1, 3) := by decide +kernel
theorem dX5_road_116 : decode cX5_road 116 = .ok (.goto (-84), 3) := by decide +kernel
theorem dX5_road_119 : decode cX5_road 119 = .ok (.iload 4, 2) := by decide +kernel
theorem dX5_road_121 : decode cX5_road 121 = .ok (.ireturn, 1) := by decide +kernel
theorem dX5_cut_0 : decode cX5_cut 0 = .ok (.aload_n 0, 1) := by decide +kernel
theorem dX5_cut_1 : decode cX5_cut 1 = .ok (.iload_n 1, 1) := by decide +kernel
theorem dX5_cut_2 : decode cX5_cut 2 = .ok (.iload_n 2, 1) := by decide +kernel
theorem dX5_cut_3 : decode cX5_cut 3 = .ok (.invokevirtual 155, 3) := by decide +kernel
theorem dX5_cut_6 : decode cX5_cut 6 = .ok (.ifCond .eq 9, 3) := by decide +kernel
theorem dX5_cut_9 : decode cX5_cut 9 = .ok (.aload_n 0, 1) := by decide +kernel
theorem dX5_cut_10 : decode cX5_cut 10 = .ok (.iconst (-1), 1) := by decide +kernel
theorem dX5_cut_11 : decode cX5_cut 11 = .ok (.invokevirtual 42, 3) := by decide +kernel
theorem dX5_cut_14 : decode cX5_cut 14 = .ok (.ireturn, 1) := by decide +kernel
theorem dX5_cut_15 : decode cX5_cut 15 = .ok (.aload_n 0, 1) := by decide +kernel
theorem dX5_cut_16 : decode cX5_cut 16 = .ok (.iload_n 1, 1) := by decide +kernel
theorem dX5_cut_17 : decode cX5_cut 17 = .ok (.iload_n 2, 1) := by decide +kernel
theorem dX5_cut_18 : decode cX5_cut 18 = .ok (.invokevirtual 158, 3) := by decide +kernel
theorem dX5_cut_21 : decode cX5_cut 21 = .ok (.ifCond .ge 6, 3) := by decide +kernel
theorem dX5_cut_24 : decode cX5_cut 24 = .ok (.bipush (-9), 2) := by decide +kernel
theorem dX5_cut_26 : decode cX5_cut 26 = .ok (.ireturn, 1) := by decide +kernel
theorem dX5_cut_27 : decode cX5_cut 27 = .ok (.iconst 0, 1) := by decide +kernel
theorem dX5_cut_28 : decode cX5_cut 28 = .ok (.istore_n 3, 1) := by decide +kernel
theorem dX5_cut_29 : decode cX5_cut 29 = .ok (.iload_n 3, 1) := by decide +kernel
theorem dX5_cut_30 : decode cX5_cut 30 = .ok (.bipush 8, 2) := by decide +kernel
theorem dX5_cut_32 : decode cX5_cut 32 = .ok (.if_icmp .ge 65, 3) := by decide +kernel
theorem dX5_cut_35 : decode cX5_cut 35 = .ok (.iload_n 3, 1) := by decide +kernel
theorem dX5_cut_36 : decode cX5_cut 36 = .ok (.iconst 1, 1) := by decide +kernel
theorem dX5_cut_37 : decode cX5_cut 37 = .ok (.iadd, 1) := by decide +kernel
theorem dX5_cut_38 : decode cX5_cut 38 = .ok (.istore 4, 2) := by decide +kernel
theorem dX5_cut_40 : decode cX5_cut 40 = .ok (.iload 4, 2) := by decide +kernel
theorem dX5_cut_42 : decode cX5_cut 42 = .ok (.bipush 8, 2) := by decide +kernel
theorem dX5_cut_44 : decode cX5_cut 44 = .ok (.if_icmp .ge 47, 3) := by decide +kernel
theorem dX5_cut_47 : decode cX5_cut 47 = .ok (.aload_n 0, 1) := by decide +kernel
theorem dX5_cut_48 : decode cX5_cut 48 = .ok (.getfield 9, 3) := by decide +kernel
theorem dX5_cut_51 : decode cX5_cut 51 = .ok (.iconst 2, 1) := by decide +kernel
theorem dX5_cut_52 : decode cX5_cut 52 = .ok (.iload_n 3, 1) := by decide +kernel
theorem dX5_cut_53 : decode cX5_cut 53 = .ok (.iadd, 1) := by decide +kernel
theorem dX5_cut_54 : decode cX5_cut 54 = .ok (.iaload, 1) := by decide +kernel
theorem dX5_cut_55 : decode cX5_cut 55 = .ok (.iload 4, 2) := by decide +kernel
theorem dX5_cut_57 : decode cX5_cut 57 = .ok (.invokestatic 50, 3) := by decide +kernel
theorem dX5_cut_60 : decode cX5_cut 60 = .ok (.ifCond .eq 25, 3) := by decide +kernel
theorem dX5_cut_63 : decode cX5_cut 63 = .ok (.aload_n 0, 1) := by decide +kernel
theorem dX5_cut_64 : decode cX5_cut 64 = .ok (.iload_n 1, 1) := by decide +kernel
theorem dX5_cut_65 : decode cX5_cut 65 = .ok (.iload_n 2, 1) := by decide +kernel
theorem dX5_cut_66 : decode cX5_cut 66 = .ok (.iload_n 3, 1) := by decide +kernel
theorem dX5_cut_67 : decode cX5_cut 67 = .ok (.iload 4, 2) := by decide +kernel
theorem dX5_cut_69 : decode cX5_cut 69 = .ok (.invokevirtual 167, 3) := by decide +kernel
theorem dX5_cut_72 : decode cX5_cut 72 = .ok (.bipush 60, 2) := by decide +kernel
theorem dX5_cut_74 : decode cX5_cut 74 = .ok (.if_icmp .le 11, 3) := by decide +kernel
theorem dX5_cut_77 : decode cX5_cut 77 = .ok (.bipush 10, 2) := by decide +kernel
theorem dX5_cut_79 : decode cX5_cut 79 = .ok (.iload_n 3, 1) := by decide +kernel
theorem dX5_cut_80 : decode cX5_cut 80 = .ok (.imul, 1) := by decide +kernel
theorem dX5_cut_81 : decode cX5_cut 81 = .ok (.iload 4, 2) := by decide +kernel
theorem dX5_cut_83 : decode cX5_cut 83 = .ok (.iadd, 1) := by decide +kernel
theorem dX5_cut_84 : decode cX5_cut 84 = .ok (.ireturn, 1) := by decide +kernel
theorem dX5_cut_85 : decode cX5_cut 85 = .ok (.iinc 4 1, 3) := by decide +kernel
theorem dX5_cut_88 : decode cX5_cut 88 = .ok (.goto (-48), 3) := by decide +kernel
theorem dX5_cut_91 : decode cX5_cut 91 = .ok (.iinc 3 1, 3) := by decide +kernel
theorem dX5_cut_94 : decode cX5_cut 94 = .ok (.goto (-65), 3) := by decide +kernel
theorem dX5_cut_97 : decode cX5_cut 97 = .ok (.bipush (-9), 2) := by decide +kernel
theorem dX5_cut_99 : decode cX5_cut 99 = .ok (.ireturn, 1) := by decide +kernel
theorem dX5_inn_0 : decode cX5_inn 0 = .ok (.iload_n 1, 1) := by decide +kernel
theorem dX5_inn_1 : decode cX5_inn 1 = .ok (.iconst 0, 1) := by decide +kernel
theorem dX5_inn_2 : decode cX5_inn 2 = .ok (.bipush 30, 2) := by decide +kernel
theorem dX5_inn_4 : decode cX5_inn 4 = .ok (.invokestatic 138, 3) := by decide +kernel
theorem dX5_inn_7 : decode cX5_inn 7 = .ok (.istore_n 3, 1) := by decide +kernel
theorem dX5_inn_8 : decode cX5_inn 8 = .ok (.iload_n 3, 1) := by decide +kernel
theorem dX5_inn_9 : decode cX5_inn 9 = .ok (.ifCond .ne 15, 3) := by decide +kernel
theorem dX5_inn_12 : decode cX5_inn 12 = .ok (.iload_n 2, 1) := by decide +kernel
theorem dX5_inn_13 : decode cX5_inn 13 = .ok (.iconst 0, 1) := by decide +kernel
theorem dX5_inn_14 : decode cX5_inn 14 = .ok (.iconst 1, 1) := by decide +kernel
theorem dX5_inn_15 : decode cX5_inn 15 = .ok (.invokestatic 46, 3) := by decide +kernel
theorem dX5_inn_18 : decode cX5_inn 18 = .ok (.ifCond .ne 6, 3) := by decide +kernel
theorem dX5_inn_21 : decode cX5_inn 21 = .ok (.bipush (-2), 2) := by decide +kernel
theorem dX5_inn_23 : decode cX5_inn 23 = .ok (.istore_n 3, 1) := by decide +kernel
theorem dX5_inn_24 : decode cX5_inn 24 = .ok (.iload_n 3, 1) := by decide +kernel
theorem dX5_inn_25 : decode cX5_inn 25 = .ok (.ifCond .eq 9, 3) := by decide +kernel
theorem dX5_inn_28 : decode cX5_inn 28 = .ok (.aload_n 0, 1) := by decide +kernel
theorem dX5_inn_29 : decode cX5_inn 29 = .ok (.iload_n 3, 1) := by decide +kernel
theorem dX5_inn_30 : decode cX5_inn 30 = .ok (.invokevirtual 42, 3) := by decide +kernel
theorem dX5_inn_33 : decode cX5_inn 33 = .ok (.ireturn, 1) := by decide +kernel
theorem dX5_inn_34 : decode cX5_inn 34 = .ok (.iconst 0, 1) := by decide +kernel
theorem dX5_inn_35 : decode cX5_inn 35 = .ok (.istore 4, 2) := by decide +kernel
theorem dX5_inn_37 : decode cX5_inn 37 = .ok (.iload 4, 2) := by decide +kernel
theorem dX5_inn_39 : decode cX5_inn 39 = .ok (.bipush 8, 2) := by decide +kernel
theorem dX5_inn_41 : decode cX5_inn 41 = .ok (.if_icmp .ge 17, 3) := by decide +kernel
theorem dX5_inn_44 : decode cX5_inn 44 = .ok (.aload_n 0, 1) := by decide +kernel
theorem dX5_inn_45 : decode cX5_inn 45 = .ok (.getfield 37, 3) := by decide +kernel
theorem dX5_inn_48 : decode cX5_inn 48 = .ok (.iload 4, 2) := by decide +kernel
theorem dX5_inn_50 : decode cX5_inn 50 = .ok (.iconst 0, 1) := by decide +kernel
theorem dX5_inn_51 : decode cX5_inn 51 = .ok (.iastore, 1) := by decide +kernel
theorem dX5_inn_52 : decode cX5_inn 52 = .ok (.iinc 4 1, 3) := by decide +kernel
theorem dX5_inn_55 : decode cX5_inn 55 = .ok (.goto (-18), 3) := by decide +kernel
theorem dX5_inn_58 : decode cX5_inn 58 = .ok (.aload_n 0, 1) := by decide +kernel
theorem dX5_inn_59 : decode cX5_inn 59 = .ok (.iconst 0, 1) := by decide +kernel
theorem dX5_inn_60 : decode cX5_inn 60 = .ok (.invokevirtual 148, 3) := by decide +kernel
theorem dX5_inn_63 : decode cX5_inn 63 = .ok (.iconst 0, 1) := by decide +kernel
theorem dX5_inn_64 : decode cX5_inn 64 = .ok (.istore 4, 2) := by decide +kernel
theorem dX5_inn_66 : decode cX5_inn 66 = .ok (.iload 4, 2) := by decide +kernel
theorem dX5_inn_68 : decode cX5_inn 68 = .ok (.iload_n 1, 1) := by decide +kernel
theorem dX5_inn_69 : decode cX5_inn 69 = .ok (.if_icmp .gt 61, 3) := by decide +kernel
theorem dX5_inn_72 : decode cX5_inn 72 = .ok (.iconst 0, 1) := by decide +kernel
theorem dX5_inn_73 : decode cX5_inn 73 = .ok (.istore 5, 2) := by decide +kernel
theorem dX5_inn_75 : decode cX5_inn 75 = .ok (.iload 5, 2) := by decide +kernel
theorem dX5_inn_77 : decode cX5_inn 77 = .ok (.aload_n 0, 1) := by decide +kernel
theorem dX5_inn_78 : decode cX5_inn 78 = .ok (.getfield 13, 3) := by decide +kernel
theorem dX5_inn_81 : decode cX5_inn 81 = .ok (.iconst 0, 1) := by decide +kernel
theorem dX5_inn_82 : decode cX5_inn 82 = .ok (.iaload, 1) := by decide +kernel
theorem dX5_inn_83 : decode cX5_inn 83 = .ok (.if_icmp .ge 32, 3) := by decide +kernel
theorem dX5_inn_86 : decode cX5_inn 86 = .ok (.aload_n 0, 1) := by decide +kernel
theorem dX5_inn_87 : decode cX5_inn 87 = .ok (.getfield 37, 3) := by decide +kernel
theorem dX5_inn_90 : decode cX5_inn 90 = .ok (.aload_n 0, 1) := by decide +kernel
theorem dX5_inn_91 : decode cX5_inn 91 = .ok (.getfield 13, 3) := by decide +kernel
theorem dX5_inn_94 : decode cX5_inn 94 = .ok (.iload 5, 2) := by decide +kernel
theorem dX5_inn_96 : decode cX5_inn 96 = .ok (.iconst 4, 1) := by decide +kernel
theorem dX5_inn_97 : decode cX5_inn 97 = .ok (.invokestatic 58, 3) := by decide +kernel
theorem dX5_inn_100 : decode cX5_inn 100 = .ok (.iaload, 1) := by decide +kernel
theorem dX5_inn_101 : decode cX5_inn 101 = .ok (.dup2, 1) := by decide +kernel
theorem dX5_inn_102 : decode cX5_inn 102 = .ok (.iaload, 1) := by decide +kernel
theorem dX5_inn_103 : decode cX5_inn 103 = .ok (.iconst 1, 1) := by decide +kernel
theorem dX5_inn_104 : decode cX5_inn 104 = .ok (.iload 5, 2) := by decide +kernel
theorem dX5_inn_106 : decode cX5_inn 106 = .ok (.ishl, 1) := by decide +kernel
theorem dX5_inn_107 : decode cX5_inn 107 = .ok (.ior, 1) := by decide +kernel
theorem dX5_inn_108 : decode cX5_inn 108 = .ok (.iastore, 1) := by decide +kernel
theorem dX5_inn_109 : decode cX5_inn 109 = .ok (.iinc 5 1, 3) := by decide +kernel
theorem dX5_inn_112 : decode cX5_inn 112 = .ok (.goto (-37), 3) := by decide +kernel
theorem dX5_inn_115 : decode cX5_inn 115 = .ok (.aload_n 0, 1) := by decide +kernel
theorem dX5_inn_116 : decode cX5_inn 116 = .ok (.aload_n 0, 1) := by decide +kernel
theorem dX5_inn_117 : decode cX5_inn 117 = .ok (.getfield 13, 3) := by decide +kernel
theorem dX5_inn_120 : decode cX5_inn 120 = .ok (.iconst 0, 1) := by decide +kernel
theorem dX5_inn_121 : decode cX5_inn 121 = .ok (.invokevirtual 76, 3) := by decide +kernel
theorem dX5_inn_124 : decode cX5_inn 124 = .ok (.iinc 4 1, 3) := by decide +kernel
theorem dX5_inn_127 : decode cX5_inn 127 = .ok (.goto (-61), 3) := by decide +kernel
theorem dX5_inn_130 : decode cX5_inn 130 = .ok (.iconst 0, 1) := by decide +kernel
theorem dX5_inn_131 : decode cX5_inn 131 = .ok (.istore 4, 2) := by decide +kernel
theorem dX5_inn_133 : decode cX5_inn 133 = .ok (.iconst 0, 1) := by decide +kernel
theorem dX5_inn_134 : decode cX5_inn 134 = .ok (.istore 5, 2) := by decide +kernel
theorem dX5_inn_136 : decode cX5_inn 136 = .ok (.iload 5, 2) := by decide +kernel
theorem dX5_inn_138 : decode cX5_inn 138 = .ok (.bipush 8, 2) := by decide +kernel
theorem dX5_inn_140 : decode cX5_inn 140 = .ok (.if_icmp .ge 36, 3) := by decide +kernel
theorem dX5_inn_143 : decode cX5_inn 143 = .ok (.aload_n 0, 1) := by decide +kernel
theorem dX5_inn_144 : decode cX5_inn 144 = .ok (.getfield 37, 3) := by decide +kernel
theorem dX5_inn_147 : decode cX5_inn 147 = .ok (.iload 5, 2) := by decide +kernel
theorem dX5_inn_149 : decode cX5_inn 149 = .ok (.iaload, 1) := by decide +kernel
theorem dX5_inn_150 : decode cX5_inn 150 = .ok (.invokestatic 145, 3) := by decide +kernel
theorem dX5_inn_153 : decode cX5_inn 153 = .ok (.aload_n 0, 1) := by decide +kernel
theorem dX5_inn_154 : decode cX5_inn 154 = .ok (.getfield 37, 3) := by decide +kernel
theorem dX5_inn_157 : decode cX5_inn 157 = .ok (.iload 4, 2) := by decide +kernel
theorem dX5_inn_159 : decode cX5_inn 159 = .ok (.iaload, 1) := by decide +kernel
theorem dX5_inn_160 : decode cX5_inn 160 = .ok (.invokestatic 145, 3) := by decide +kernel
theorem dX5_inn_163 : decode cX5_inn 163 = .ok (.if_icmp .le 7, 3) := by decide +kernel
theorem dX5_inn_166 : decode cX5_inn 166 = .ok (.iload 5, 2) := by decide +kernel
theorem dX5_inn_168 : decode cX5_inn 168 = .ok (.istore 4, 2) := by decide +kernel
theorem dX5_inn_170 : decode cX5_inn 170 = .ok (.iinc 5 1, 3) := by decide +kernel
theorem dX5_inn_173 : decode cX5_inn 173 = .ok (.goto (-37), 3) := by decide +kernel
theorem dX5_inn_176 : decode cX5_inn 176 = .ok (.iload_n 2, 1) := by decide +kernel
theorem dX5_inn_177 : decode cX5_inn 177 = .ok (.ifCond .ne 8, 3) := by decide +kernel
theorem dX5_inn_180 : decode cX5_inn 180 = .ok (.iload 4, 2) := by decide +kernel
theorem dX5_inn_182 : decode cX5_inn 182 = .ok (.goto 13, 3) := by decide +kernel
theorem dX5_inn_185 : decode cX5_inn 185 = .ok (.aload_n 0, 1) := by decide +kernel
theorem dX5_inn_186 : decode cX5_inn 186 = .ok (.getfield 37, 3) := by decide +kernel
theorem dX5_inn_189 : decode cX5_inn 189 = .ok (.iload 4, 2) := by decide +kernel
theorem dX5_inn_191 : decode cX5_inn 191 = .ok (.iaload, 1) := by decide +kernel
theorem dX5_inn_192 : decode cX5_inn 192 = .ok (.invokestatic 145, 3) := by decide +kernel
theorem dX5_inn_195 : decode cX5_inn 195 = .ok (.ireturn, 1) := by decide +kernel
theorem dX5_busiest_0 : decode cX5_busiest 0 = .ok (.iconst 0, 1) := by decide +kernel
theorem dX5_busiest_1 : decode cX5_busiest 1 = .ok (.istore_n 1, 1) := by decide +kernel
theorem dX5_busiest_2 : decode cX5_busiest 2 = .ok (.iconst 0, 1) := by decide +kernel
theorem dX5_busiest_3 : decode cX5_busiest 3 = .ok (.istore_n 2, 1) := by decide +kernel
theorem dX5_busiest_4 : decode cX5_busiest 4 = .ok (.iload_n 2, 1) := by decide +kernel
theorem dX5_busiest_5 : decode cX5_busiest 5 = .ok (.bipush 8, 2) := by decide +kernel
theorem dX5_busiest_7 : decode cX5_busiest 7 = .ok (.if_icmp .ge 36, 3) := by decide +kernel
theorem dX5_busiest_10 : decode cX5_busiest 10 = .ok (.aload_n 0, 1) := by decide +kernel
theorem dX5_busiest_11 : decode cX5_busiest 11 = .ok (.getfield 9, 3) := by decide +kernel
theorem dX5_busiest_14 : decode cX5_busiest 14 = .ok (.iconst 2, 1) := by decide +kernel
theorem dX5_busiest_15 : decode cX5_busiest 15 = .ok (.iload_n 2, 1) := by decide +kernel
theorem dX5_busiest_16 : decode cX5_busiest 16 = .ok (.iadd, 1) := by decide +kernel
theorem dX5_busiest_17 : decode cX5_busiest 17 = .ok (.iaload, 1) := by decide +kernel
theorem dX5_busiest_18 : decode cX5_busiest 18 = .ok (.invokestatic 145, 3) := by decide +kernel
theorem dX5_busiest_21 : decode cX5_busiest 21 = .ok (.aload_n 0, 1) := by decide +kernel
theorem dX5_busiest_22 : decode cX5_busiest 22 = .ok (.getfield 9, 3) := by decide +kernel
theorem dX5_busiest_25 : decode cX5_busiest 25 = .ok (.iconst 2, 1) := by decide +kernel
theorem dX5_busiest_26 : decode cX5_busiest 26 = .ok (.iload_n 1, 1) := by decide +kernel
theorem dX5_busiest_27 : decode cX5_busiest 27 = .ok (.iadd, 1) := by decide +kernel
theorem dX5_busiest_28 : decode cX5_busiest 28 = .ok (.iaload, 1) := by decide +kernel
theorem dX5_busiest_29 : decode cX5_busiest 29 = .ok (.invokestatic 145, 3) := by decide +kernel
theorem dX5_busiest_32 : decode cX5_busiest 32 = .ok (.if_icmp .le 5, 3) := by decide +kernel
theorem dX5_busiest_35 : decode cX5_busiest 35 = .ok (.iload_n 2, 1) := by decide +kernel
theorem dX5_busiest_36 : decode cX5_busiest 36 = .ok (.istore_n 1, 1) := by decide +kernel
theorem dX5_busiest_37 : decode cX5_busiest 37 = .ok (.iinc 2 1, 3) := by decide +kernel
theorem dX5_busiest_40 : decode cX5_busiest 40 = .ok (.goto (-36), 3) := by decide +kernel
theorem dX5_busiest_43 : decode cX5_busiest 43 = .ok (.iload_n 1, 1) := by decide +kernel
theorem dX5_busiest_44 : decode cX5_busiest 44 = .ok (.ireturn, 1) := by decide +kernel
theorem dX5_near_0 : decode cX5_near 0 = .ok (.iload_n 1, 1) := by decide +kernel
theorem dX5_near_1 : decode cX5_near 1 = .ok (.invokestatic 104, 3) := by decide +kernel
theorem dX5_near_4 : decode cX5_near 4 = .ok (.ifCond .eq 14, 3) := by decide +kernel
theorem dX5_near_7 : decode cX5_near 7 = .ok (.aload_n 0, 1) := by decide +kernel
theorem dX5_near_8 : decode cX5_near 8 = .ok (.getfield 9, 3) := by decide +kernel
theorem dX5_near_11 : decode cX5_near 11 = .ok (.iconst 2, 1) := by decide +kernel
theorem dX5_near_12 : decode cX5_near 12 = .ok (.iload_n 1, 1) := by decide +kernel
theorem dX5_near_13 : decode cX5_near 13 = .ok (.iadd, 1) := by decide +kernel
theorem dX5_near_14 : decode cX5_near 14 = .ok (.iaload, 1) := by decide +kernel
theorem dX5_near_15 : decode cX5_near 15 = .ok (.goto 8, 3) := by decide +kernel
theorem dX5_near_18 : decode cX5_near 18 = .ok (.aload_n 0, 1) := by decide +kernel
theorem dX5_near_19 : decode cX5_near 19 = .ok (.iconst (-1), 1) := by decide +kernel
theorem dX5_near_20 : decode cX5_near 20 = .ok (.invokevirtual 42, 3) := by decide +kernel
theorem dX5_near_23 : decode cX5_near 23 = .ok (.ireturn, 1) := by decide +kernel
theorem dX5_mostApart_0 : decode cX5_mostApart 0 = .ok (.iconst 0, 1) := by decide +kernel
theorem dX5_mostApart_1 : decode cX5_mostApart 1 = .ok (.istore_n 1, 1) := by decide +kernel
theorem dX5_mostApart_2 : decode cX5_mostApart 2 = .ok (.iconst 0, 1) := by decide +kernel
theorem dX5_mostApart_3 : decode cX5_mostApart 3 = .ok (.istore_n 2, 1) := by decide +kernel
theorem dX5_mostApart_4 : decode cX5_mostApart 4 = .ok (.iload_n 2, 1) := by decide +kernel
theorem dX5_mostApart_5 : decode cX5_mostApart 5 = .ok (.bipush 64, 2) := by decide +kernel
theorem dX5_mostApart_7 : decode cX5_mostApart 7 = .ok (.if_icmp .ge 41, 3) := by decide +kernel
theorem dX5_mostApart_10 : decode cX5_mostApart 10 = .ok (.aload_n 0, 1) := by decide +kernel
theorem dX5_mostApart_11 : decode cX5_mostApart 11 = .ok (.getfield 22, 3) := by decide +kernel
theorem dX5_mostApart_14 : decode cX5_mostApart 14 = .ok (.iload_n 2, 1) := by decide +kernel
theorem dX5_mostApart_15 : decode cX5_mostApart 15 = .ok (.iaload, 1) := by decide +kernel
theorem dX5_mostApart_16 : decode cX5_mostApart 16 = .ok (.bipush 9, 2) := by decide +kernel
theorem dX5_mostApart_18 : decode cX5_mostApart 18 = .ok (.if_icmp .ge 22, 3) := by decide +kernel
theorem dX5_mostApart_21 : decode cX5_mostApart 21 = .ok (.aload_n 0, 1) := by decide +kernel
theorem dX5_mostApart_22 : decode cX5_mostApart 22 = .ok (.getfield 22, 3) := by decide +kernel
theorem dX5_mostApart_25 : decode cX5_mostApart 25 = .ok (.iload_n 2, 1) := by decide +kernel
theorem dX5_mostApart_26 : decode cX5_mostApart 26 = .ok (.iaload, 1) := by decide +kernel
theorem dX5_mostApart_27 : decode cX5_mostApart 27 = .ok (.iload_n 1, 1) := by decide +kernel
theorem dX5_mostApart_28 : decode cX5_mostApart 28 = .ok (.if_icmp .le 12, 3) := by decide +kernel
theorem dX5_mostApart_31 : decode cX5_mostApart 31 = .ok (.aload_n 0, 1) := by decide +kernel
theorem dX5_mostApart_32 : decode cX5_mostApart 32 = .ok (.getfield 22, 3) := by decide +kernel
theorem dX5_mostApart_35 : decode cX5_mostApart 35 = .ok (.iload_n 2, 1) := by decide +kernel
theorem dX5_mostApart_36 : decode cX5_mostApart 36 = .ok (.iaload, 1) := by decide +kernel
theorem dX5_mostApart_37 : decode cX5_mostApart 37 = .ok (.goto 4, 3) := by decide +kernel
theorem dX5_mostApart_40 : decode cX5_mostApart 40 = .ok (.iload_n 1, 1) := by decide +kernel
theorem dX5_mostApart_41 : decode cX5_mostApart 41 = .ok (.istore_n 1, 1) := by decide +kernel
theorem dX5_mostApart_42 : decode cX5_mostApart 42 = .ok (.iinc 2 1, 3) := by decide +kernel
theorem dX5_mostApart_45 : decode cX5_mostApart 45 = .ok (.goto (-41), 3) := by decide +kernel
theorem dX5_mostApart_48 : decode cX5_mostApart 48 = .ok (.iload_n 1, 1) := by decide +kernel
theorem dX5_mostApart_49 : decode cX5_mostApart 49 = .ok (.ireturn, 1) := by decide +kernel
theorem dX5_apart_0 : decode cX5_apart 0 = .ok (.iload_n 1, 1) := by decide +kernel
theorem dX5_apart_1 : decode cX5_apart 1 = .ok (.iconst 0, 1) := by decide +kernel
theorem dX5_apart_2 : decode cX5_apart 2 = .ok (.iconst 3, 1) := by decide +kernel
theorem dX5_apart_3 : decode cX5_apart 3 = .ok (.invokestatic 46, 3) := by decide +kernel
theorem dX5_apart_6 : decode cX5_apart 6 = .ok (.ifCond .ne 10, 3) := by decide +kernel
theorem dX5_apart_9 : decode cX5_apart 9 = .ok (.aload_n 0, 1) := by decide +kernel
theorem dX5_apart_10 : decode cX5_apart 10 = .ok (.bipush (-2), 2) := by decide +kernel
theorem dX5_apart_12 : decode cX5_apart 12 = .ok (.invokevirtual 42, 3) := by decide +kernel
theorem dX5_apart_15 : decode cX5_apart 15 = .ok (.ireturn, 1) := by decide +kernel
theorem dX5_apart_16 : decode cX5_apart 16 = .ok (.aload_n 0, 1) := by decide +kernel
theorem dX5_apart_17 : decode cX5_apart 17 = .ok (.aload_n 0, 1) := by decide +kernel
theorem dX5_apart_18 : decode cX5_apart 18 = .ok (.getfield 9, 3) := by decide +kernel
theorem dX5_apart_21 : decode cX5_apart 21 = .ok (.invokevirtual 72, 3) := by decide +kernel
theorem dX5_apart_24 : decode cX5_apart 24 = .ok (.iload_n 1, 1) := by decide +kernel
theorem dX5_apart_25 : decode cX5_apart 25 = .ok (.ifCond .ne 8, 3) := by decide +kernel
theorem dX5_apart_28 : decode cX5_apart 28 = .ok (.aload_n 0, 1) := by decide +kernel
theorem dX5_apart_29 : decode cX5_apart 29 = .ok (.invokevirtual 171, 3) := by decide +kernel
theorem dX5_apart_32 : decode cX5_apart 32 = .ok (.ireturn, 1) := by decide +kernel
theorem dX5_apart_33 : decode cX5_apart 33 = .ok (.iconst 0, 1) := by decide +kernel
theorem dX5_apart_34 : decode cX5_apart 34 = .ok (.istore_n 2, 1) := by decide +kernel
theorem dX5_apart_35 : decode cX5_apart 35 = .ok (.iload_n 1, 1) := by decide +kernel
theorem dX5_apart_36 : decode cX5_apart 36 = .ok (.iconst 1, 1) := by decide +kernel
theorem dX5_apart_37 : decode cX5_apart 37 = .ok (.if_icmp .ne 41, 3) := by decide +kernel
theorem dX5_apart_40 : decode cX5_apart 40 = .ok (.iconst 0, 1) := by decide +kernel
theorem dX5_apart_41 : decode cX5_apart 41 = .ok (.istore_n 3, 1) := by decide +kernel
theorem dX5_apart_42 : decode cX5_apart 42 = .ok (.iload_n 3, 1) := by decide +kernel
theorem dX5_apart_43 : decode cX5_apart 43 = .ok (.bipush 8, 2) := by decide +kernel
theorem dX5_apart_45 : decode cX5_apart 45 = .ok (.if_icmp .ge 30, 3) := by decide +kernel
theorem dX5_apart_48 : decode cX5_apart 48 = .ok (.iload_n 2, 1) := by decide +kernel
theorem dX5_apart_49 : decode cX5_apart 49 = .ok (.aload_n 0, 1) := by decide +kernel
theorem dX5_apart_50 : decode cX5_apart 50 = .ok (.getfield 22, 3) := by decide +kernel
theorem dX5_apart_53 : decode cX5_apart 53 = .ok (.iload_n 3, 1) := by decide +kernel
theorem dX5_apart_54 : decode cX5_apart 54 = .ok (.iaload, 1) := by decide +kernel
theorem dX5_apart_55 : decode cX5_apart 55 = .ok (.bipush 9, 2) := by decide +kernel
theorem dX5_apart_57 : decode cX5_apart 57 = .ok (.if_icmp .ne 9, 3) := by decide +kernel
theorem dX5_apart_60 : decode cX5_apart 60 = .ok (.iconst 1, 1) := by decide +kernel
theorem dX5_apart_61 : decode cX5_apart 61 = .ok (.iload_n 3, 1) := by decide +kernel
theorem dX5_apart_62 : decode cX5_apart 62 = .ok (.ishl, 1) := by decide +kernel
theorem dX5_apart_63 : decode cX5_apart 63 = .ok (.goto 4, 3) := by decide +kernel
theorem dX5_apart_66 : decode cX5_apart 66 = .ok (.iconst 0, 1) := by decide +kernel
theorem dX5_apart_67 : decode cX5_apart 67 = .ok (.ior, 1) := by decide +kernel
theorem dX5_apart_68 : decode cX5_apart 68 = .ok (.istore_n 2, 1) := by decide +kernel
theorem dX5_apart_69 : decode cX5_apart 69 = .ok (.iinc 3 1, 3) := by decide +kernel
theorem dX5_apart_72 : decode cX5_apart 72 = .ok (.goto (-30), 3) := by decide +kernel
theorem dX5_apart_75 : decode cX5_apart 75 = .ok (.goto 96, 3) := by decide +kernel
theorem dX5_apart_78 : decode cX5_apart 78 = .ok (.iconst 0, 1) := by decide +kernel
theorem dX5_apart_79 : decode cX5_apart 79 = .ok (.istore_n 3, 1) := by decide +kernel
theorem dX5_apart_80 : decode cX5_apart 80 = .ok (.iload_n 3, 1) := by decide +kernel
theorem dX5_apart_81 : decode cX5_apart 81 = .ok (.aload_n 0, 1) := by decide +kernel
theorem dX5_apart_82 : decode cX5_apart 82 = .ok (.getfield 9, 3) := by decide +kernel
theorem dX5_apart_85 : decode cX5_apart 85 = .ok (.iconst 0, 1) := by decide +kernel
theorem dX5_apart_86 : decode cX5_apart 86 = .ok (.iaload, 1) := by decide +kernel
theorem dX5_apart_87 : decode cX5_apart 87 = .ok (.if_icmp .ge 84, 3) := by decide +kernel
theorem dX5_apart_90 : decode cX5_apart 90 = .ok (.iload_n 2, 1) := by decide +kernel
theorem dX5_apart_91 : decode cX5_apart 91 = .ok (.iload_n 1, 1) := by decide +kernel
theorem dX5_apart_92 : decode cX5_apart 92 = .ok (.iconst 2, 1) := by decide +kernel
theorem dX5_apart_93 : decode cX5_apart 93 = .ok (.if_icmp .ne 29, 3) := by decide +kernel
theorem dX5_apart_96 : decode cX5_apart 96 = .ok (.aload_n 0, 1) := by decide +kernel
theorem dX5_apart_97 : decode cX5_apart 97 = .ok (.getfield 9, 3) := by decide +kernel
theorem dX5_apart_100 : decode cX5_apart 100 = .ok (.iload_n 3, 1) := by decide +kernel
theorem dX5_apart_101 : decode cX5_apart 101 = .ok (.iconst 2, 1) := by decide +kernel
theorem dX5_apart_102 : decode cX5_apart 102 = .ok (.invokestatic 58, 3) := by decide +kernel
theorem dX5_apart_105 : decode cX5_apart 105 = .ok (.iaload, 1) := by decide +kernel
theorem dX5_apart_106 : decode cX5_apart 106 = .ok (.aload_n 0, 1) := by decide +kernel
theorem dX5_apart_107 : decode cX5_apart 107 = .ok (.getfield 9, 3) := by decide +kernel
theorem dX5_apart_110 : decode cX5_apart 110 = .ok (.iload_n 3, 1) := by decide +kernel
theorem dX5_apart_111 : decode cX5_apart 111 = .ok (.iconst 3, 1) := by decide +kernel
theorem dX5_apart_112 : decode cX5_apart 112 = .ok (.invokestatic 58, 3) := by decide +kernel
theorem dX5_apart_115 : decode cX5_apart 115 = .ok (.iaload, 1) := by decide +kernel
theorem dX5_apart_116 : decode cX5_apart 116 = .ok (.if_icmp .ne 46, 3) := by decide +kernel
theorem dX5_apart_119 : decode cX5_apart 119 = .ok (.goto 37, 3) := by decide +kernel
theorem dX5_apart_122 : decode cX5_apart 122 = .ok (.aload_n 0, 1) := by decide +kernel
theorem dX5_apart_123 : decode cX5_apart 123 = .ok (.getfield 22, 3) := by decide +kernel
theorem dX5_apart_126 : decode cX5_apart 126 = .ok (.bipush 8, 2) := by decide +kernel
theorem dX5_apart_128 : decode cX5_apart 128 = .ok (.aload_n 0, 1) := by decide +kernel
theorem dX5_apart_129 : decode cX5_apart 129 = .ok (.getfield 9, 3) := by decide +kernel
theorem dX5_apart_132 : decode cX5_apart 132 = .ok (.iload_n 3, 1) := by decide +kernel
theorem dX5_apart_133 : decode cX5_apart 133 = .ok (.iconst 4, 1) := by decide +kernel
theorem dX5_apart_134 : decode cX5_apart 134 = .ok (.invokestatic 58, 3) := by decide +kernel
theorem dX5_apart_137 : decode cX5_apart 137 = .ok (.iaload, 1) := by decide +kernel
theorem dX5_apart_138 : decode cX5_apart 138 = .ok (.imul, 1) := by decide +kernel
theorem dX5_apart_139 : decode cX5_apart 139 = .ok (.aload_n 0, 1) := by decide +kernel
theorem dX5_apart_140 : decode cX5_apart 140 = .ok (.getfield 9, 3) := by decide +kernel
theorem dX5_apart_143 : decode cX5_apart 143 = .ok (.iload_n 3, 1) := by decide +kernel
theorem dX5_apart_144 : decode cX5_apart 144 = .ok (.iconst 3, 1) := by decide +kernel
theorem dX5_apart_145 : decode cX5_apart 145 = .ok (.invokestatic 58, 3) := by decide +kernel
theorem dX5_apart_148 : decode cX5_apart 148 = .ok (.iaload, 1) := by decide +kernel
theorem dX5_apart_149 : decode cX5_apart 149 = .ok (.iadd, 1) := by decide +kernel
theorem dX5_apart_150 : decode cX5_apart 150 = .ok (.iaload, 1) := by decide +kernel
theorem dX5_apart_151 : decode cX5_apart 151 = .ok (.bipush 9, 2) := by decide +kernel
theorem dX5_apart_153 : decode cX5_apart 153 = .ok (.if_icmp .ne 9, 3) := by decide +kernel
theorem dX5_apart_156 : decode cX5_apart 156 = .ok (.iconst 1, 1) := by decide +kernel
theorem dX5_apart_157 : decode cX5_apart 157 = .ok (.iload_n 3, 1) := by decide +kernel
theorem dX5_apart_158 : decode cX5_apart 158 = .ok (.ishl, 1) := by decide +kernel
theorem dX5_apart_159 : decode cX5_apart 159 = .ok (.goto 4, 3) := by decide +kernel
theorem dX5_apart_162 : decode cX5_apart 162 = .ok (.iconst 0, 1) := by decide +kernel
theorem dX5_apart_163 : decode cX5_apart 163 = .ok (.ior, 1) := by decide +kernel
theorem dX5_apart_164 : decode cX5_apart 164 = .ok (.istore_n 2, 1) := by decide +kernel
theorem dX5_apart_165 : decode cX5_apart 165 = .ok (.iinc 3 1, 3) := by decide +kernel
theorem dX5_apart_168 : decode cX5_apart 168 = .ok (.goto (-88), 3) := by decide +kernel
theorem dX5_apart_171 : decode cX5_apart 171 = .ok (.iload_n 2, 1) := by decide +kernel
theorem dX5_apart_172 : decode cX5_apart 172 = .ok (.ireturn, 1) := by decide +kernel
theorem dX5_tired_0 : decode cX5_tired 0 = .ok (.bipush (-9), 2) := by decide +kernel
theorem dX5_tired_2 : decode cX5_tired 2 = .ok (.istore_n 1, 1) := by decide +kernel
theorem dX5_tired_3 : decode cX5_tired 3 = .ok (.iconst 0, 1) := by decide +kernel
theorem dX5_tired_4 : decode cX5_tired 4 = .ok (.istore_n 2, 1) := by decide +kernel
theorem dX5_tired_5 : decode cX5_tired 5 = .ok (.iload_n 2, 1) := by decide +kernel
theorem dX5_tired_6 : decode cX5_tired 6 = .ok (.aload_n 0, 1) := by decide +kernel
theorem dX5_tired_7 : decode cX5_tired 7 = .ok (.getfield 9, 3) := by decide +kernel
theorem dX5_tired_10 : decode cX5_tired 10 = .ok (.iconst 0, 1) := by decide +kernel
theorem dX5_tired_11 : decode cX5_tired 11 = .ok (.iaload, 1) := by decide +kernel
theorem dX5_tired_12 : decode cX5_tired 12 = .ok (.if_icmp .ge 40, 3) := by decide +kernel
theorem dX5_tired_15 : decode cX5_tired 15 = .ok (.iload_n 1, 1) := by decide +kernel
theorem dX5_tired_16 : decode cX5_tired 16 = .ok (.ifCond .lt 28, 3) := by decide +kernel
theorem dX5_tired_19 : decode cX5_tired 19 = .ok (.aload_n 0, 1) := by decide +kernel
theorem dX5_tired_20 : decode cX5_tired 20 = .ok (.getfield 9, 3) := by decide +kernel
theorem dX5_tired_23 : decode cX5_tired 23 = .ok (.iload_n 2, 1) := by decide +kernel
theorem dX5_tired_24 : decode cX5_tired 24 = .ok (.bipush 6, 2) := by decide +kernel
theorem dX5_tired_26 : decode cX5_tired 26 = .ok (.invokestatic 58, 3) := by decide +kernel
theorem dX5_tired_29 : decode cX5_tired 29 = .ok (.iaload, 1) := by decide +kernel
theorem dX5_tired_30 : decode cX5_tired 30 = .ok (.aload_n 0, 1) := by decide +kernel
theorem dX5_tired_31 : decode cX5_tired 31 = .ok (.getfield 9, 3) := by decide +kernel
theorem dX5_tired_34 : decode cX5_tired 34 = .ok (.iload_n 1, 1) := by decide +kernel
theorem dX5_tired_35 : decode cX5_tired 35 = .ok (.bipush 6, 2) := by decide +kernel
theorem dX5_tired_37 : decode cX5_tired 37 = .ok (.invokestatic 58, 3) := by decide +kernel
theorem dX5_tired_40 : decode cX5_tired 40 = .ok (.iaload, 1) := by decide +kernel
theorem dX5_tired_41 : decode cX5_tired 41 = .ok (.if_icmp .le 5, 3) := by decide +kernel
theorem dX5_tired_44 : decode cX5_tired 44 = .ok (.iload_n 2, 1) := by decide +kernel
theorem dX5_tired_45 : decode cX5_tired 45 = .ok (.istore_n 1, 1) := by decide +kernel
theorem dX5_tired_46 : decode cX5_tired 46 = .ok (.iinc 2 1, 3) := by decide +kernel
theorem dX5_tired_49 : decode cX5_tired 49 = .ok (.goto (-44), 3) := by decide +kernel
theorem dX5_tired_52 : decode cX5_tired 52 = .ok (.iload_n 1, 1) := by decide +kernel
theorem dX5_tired_53 : decode cX5_tired 53 = .ok (.ireturn, 1) := by decide +kernel
theorem dX5_truly_0 : decode cX5_truly 0 = .ok (.aload_n 0, 1) := by decide +kernel
theorem dX5_truly_1 : decode cX5_truly 1 = .ok (.iload_n 1, 1) := by decide +kernel
theorem dX5_truly_2 : decode cX5_truly 2 = .ok (.invokevirtual 118, 3) := by decide +kernel
theorem dX5_truly_5 : decode cX5_truly 5 = .ok (.ifCond .ne 9, 3) := by decide +kernel
theorem dX5_truly_8 : decode cX5_truly 8 = .ok (.aload_n 0, 1) := by decide +kernel
theorem dX5_truly_9 : decode cX5_truly 9 = .ok (.iconst (-1), 1) := by decide +kernel
theorem dX5_truly_10 : decode cX5_truly 10 = .ok (.invokevirtual 42, 3) := by decide +kernel
theorem dX5_truly_13 : decode cX5_truly 13 = .ok (.ireturn, 1) := by decide +kernel
theorem dX5_truly_14 : decode cX5_truly 14 = .ok (.aload_n 0, 1) := by decide +kernel
theorem dX5_truly_15 : decode cX5_truly 15 = .ok (.iconst 0, 1) := by decide +kernel
theorem dX5_truly_16 : decode cX5_truly 16 = .ok (.invokevirtual 148, 3) := by decide +kernel
theorem dX5_truly_19 : decode cX5_truly 19 = .ok (.iconst 0, 1) := by decide +kernel
theorem dX5_truly_20 : decode cX5_truly 20 = .ok (.istore_n 2, 1) := by decide +kernel
theorem dX5_truly_21 : decode cX5_truly 21 = .ok (.iload_n 2, 1) := by decide +kernel
theorem dX5_truly_22 : decode cX5_truly 22 = .ok (.bipush 99, 2) := by decide +kernel
theorem dX5_truly_24 : decode cX5_truly 24 = .ok (.if_icmp .gt 33, 3) := by decide +kernel
theorem dX5_truly_27 : decode cX5_truly 27 = .ok (.aload_n 0, 1) := by decide +kernel
theorem dX5_truly_28 : decode cX5_truly 28 = .ok (.getfield 13, 3) := by decide +kernel
theorem dX5_truly_31 : decode cX5_truly 31 = .ok (.iload_n 1, 1) := by decide +kernel
theorem dX5_truly_32 : decode cX5_truly 32 = .ok (.iconst 5, 1) := by decide +kernel
theorem dX5_truly_33 : decode cX5_truly 33 = .ok (.invokestatic 58, 3) := by decide +kernel
theorem dX5_truly_36 : decode cX5_truly 36 = .ok (.iaload, 1) := by decide +kernel
theorem dX5_truly_37 : decode cX5_truly 37 = .ok (.ifCond .ne 5, 3) := by decide +kernel
theorem dX5_truly_40 : decode cX5_truly 40 = .ok (.iload_n 2, 1) := by decide +kernel
theorem dX5_truly_41 : decode cX5_truly 41 = .ok (.ireturn, 1) := by decide +kernel
theorem dX5_truly_42 : decode cX5_truly 42 = .ok (.aload_n 0, 1) := by decide +kernel
theorem dX5_truly_43 : decode cX5_truly 43 = .ok (.aload_n 0, 1) := by decide +kernel
theorem dX5_truly_44 : decode cX5_truly 44 = .ok (.getfield 13, 3) := by decide +kernel
theorem dX5_truly_47 : decode cX5_truly 47 = .ok (.iconst 0, 1) := by decide +kernel
theorem dX5_truly_48 : decode cX5_truly 48 = .ok (.invokevirtual 76, 3) := by decide +kernel
theorem dX5_truly_51 : decode cX5_truly 51 = .ok (.iinc 2 1, 3) := by decide +kernel
theorem dX5_truly_54 : decode cX5_truly 54 = .ok (.goto (-33), 3) := by decide +kernel
theorem dX5_truly_57 : decode cX5_truly 57 = .ok (.bipush (-9), 2) := by decide +kernel
theorem dX5_truly_59 : decode cX5_truly 59 = .ok (.ireturn, 1) := by decide +kernel
theorem dX5_stepsLeft_0 : decode cX5_stepsLeft 0 = .ok (.aload_n 0, 1) := by decide +kernel
theorem dX5_stepsLeft_1 : decode cX5_stepsLeft 1 = .ok (.getfield 22, 3) := by decide +kernel
theorem dX5_stepsLeft_4 : decode cX5_stepsLeft 4 = .ok (.bipush 8, 2) := by decide +kernel
theorem dX5_stepsLeft_6 : decode cX5_stepsLeft 6 = .ok (.aload_n 1, 1) := by decide +kernel
theorem dX5_stepsLeft_7 : decode cX5_stepsLeft 7 = .ok (.iload_n 2, 1) := by decide +kernel
theorem dX5_stepsLeft_8 : decode cX5_stepsLeft 8 = .ok (.iconst 4, 1) := by decide +kernel
theorem dX5_stepsLeft_9 : decode cX5_stepsLeft 9 = .ok (.invokestatic 58, 3) := by decide +kernel
theorem dX5_stepsLeft_12 : decode cX5_stepsLeft 12 = .ok (.iaload, 1) := by decide +kernel
theorem dX5_stepsLeft_13 : decode cX5_stepsLeft 13 = .ok (.imul, 1) := by decide +kernel
theorem dX5_stepsLeft_14 : decode cX5_stepsLeft 14 = .ok (.aload_n 1, 1) := by decide +kernel
theorem dX5_stepsLeft_15 : decode cX5_stepsLeft 15 = .ok (.iload_n 2, 1) := by decide +kernel
theorem dX5_stepsLeft_16 : decode cX5_stepsLeft 16 = .ok (.iconst 3, 1) := by decide +kernel
theorem dX5_stepsLeft_17 : decode cX5_stepsLeft 17 = .ok (.invokestatic 58, 3) := by decide +kernel
theorem dX5_stepsLeft_20 : decode cX5_stepsLeft 20 = .ok (.iaload, 1) := by decide +kernel
theorem dX5_stepsLeft_21 : decode cX5_stepsLeft 21 = .ok (.iadd, 1) := by decide +kernel
theorem dX5_stepsLeft_22 : decode cX5_stepsLeft 22 = .ok (.iaload, 1) := by decide +kernel
theorem dX5_stepsLeft_23 : decode cX5_stepsLeft 23 = .ok (.ireturn, 1) := by decide +kernel
theorem dX5_totalIn_0 : decode cX5_totalIn 0 = .ok (.iconst 0, 1) := by decide +kernel
theorem dX5_totalIn_1 : decode cX5_totalIn 1 = .ok (.istore_n 1, 1) := by decide +kernel
theorem dX5_totalIn_2 : decode cX5_totalIn 2 = .ok (.iconst 0, 1) := by decide +kernel
theorem dX5_totalIn_3 : decode cX5_totalIn 3 = .ok (.istore_n 2, 1) := by decide +kernel
theorem dX5_totalIn_4 : decode cX5_totalIn 4 = .ok (.iload_n 2, 1) := by decide +kernel
theorem dX5_totalIn_5 : decode cX5_totalIn 5 = .ok (.aload_n 0, 1) := by decide +kernel
theorem dX5_totalIn_6 : decode cX5_totalIn 6 = .ok (.getfield 13, 3) := by decide +kernel
theorem dX5_totalIn_9 : decode cX5_totalIn 9 = .ok (.iconst 0, 1) := by decide +kernel
theorem dX5_totalIn_10 : decode cX5_totalIn 10 = .ok (.iaload, 1) := by decide +kernel
theorem dX5_totalIn_11 : decode cX5_totalIn 11 = .ok (.if_icmp .ge 21, 3) := by decide +kernel
theorem dX5_totalIn_14 : decode cX5_totalIn 14 = .ok (.iload_n 1, 1) := by decide +kernel
theorem dX5_totalIn_15 : decode cX5_totalIn 15 = .ok (.aload_n 0, 1) := by decide +kernel
theorem dX5_totalIn_16 : decode cX5_totalIn 16 = .ok (.aload_n 0, 1) := by decide +kernel
theorem dX5_totalIn_17 : decode cX5_totalIn 17 = .ok (.getfield 13, 3) := by decide +kernel
theorem dX5_totalIn_20 : decode cX5_totalIn 20 = .ok (.iload_n 2, 1) := by decide +kernel
theorem dX5_totalIn_21 : decode cX5_totalIn 21 = .ok (.invokevirtual 174, 3) := by decide +kernel
theorem dX5_totalIn_24 : decode cX5_totalIn 24 = .ok (.iadd, 1) := by decide +kernel
theorem dX5_totalIn_25 : decode cX5_totalIn 25 = .ok (.istore_n 1, 1) := by decide +kernel
theorem dX5_totalIn_26 : decode cX5_totalIn 26 = .ok (.iinc 2 1, 3) := by decide +kernel
theorem dX5_totalIn_29 : decode cX5_totalIn 29 = .ok (.goto (-25), 3) := by decide +kernel
theorem dX5_totalIn_32 : decode cX5_totalIn 32 = .ok (.iload_n 1, 1) := by decide +kernel
theorem dX5_totalIn_33 : decode cX5_totalIn 33 = .ok (.ireturn, 1) := by decide +kernel
theorem dX5_total_0 : decode cX5_total 0 = .ok (.iload_n 1, 1) := by decide +kernel
theorem dX5_total_1 : decode cX5_total 1 = .ok (.iconst 0, 1) := by decide +kernel
theorem dX5_total_2 : decode cX5_total 2 = .ok (.bipush 60, 2) := by decide +kernel
theorem dX5_total_4 : decode cX5_total 4 = .ok (.invokestatic 138, 3) := by decide +kernel
theorem dX5_total_7 : decode cX5_total 7 = .ok (.istore_n 2, 1) := by decide +kernel
theorem dX5_total_8 : decode cX5_total 8 = .ok (.iload_n 2, 1) := by decide +kernel
theorem dX5_total_9 : decode cX5_total 9 = .ok (.ifCond .eq 9, 3) := by decide +kernel
theorem dX5_total_12 : decode cX5_total 12 = .ok (.aload_n 0, 1) := by decide +kernel
theorem dX5_total_13 : decode cX5_total 13 = .ok (.iload_n 2, 1) := by decide +kernel
theorem dX5_total_14 : decode cX5_total 14 = .ok (.invokevirtual 42, 3) := by decide +kernel
theorem dX5_total_17 : decode cX5_total 17 = .ok (.ireturn, 1) := by decide +kernel
theorem dX5_total_18 : decode cX5_total 18 = .ok (.aload_n 0, 1) := by decide +kernel
theorem dX5_total_19 : decode cX5_total 19 = .ok (.iload_n 1, 1) := by decide +kernel
theorem dX5_total_20 : decode cX5_total 20 = .ok (.invokevirtual 148, 3) := by decide +kernel
theorem dX5_total_23 : decode cX5_total 23 = .ok (.aload_n 0, 1) := by decide +kernel
theorem dX5_total_24 : decode cX5_total 24 = .ok (.invokevirtual 178, 3) := by decide +kernel
theorem dX5_total_27 : decode cX5_total 27 = .ok (.ireturn, 1) := by decide +kernel
theorem dX5_bare_0 : decode cX5_bare 0 = .ok (.iload_n 1, 1) := by decide +kernel
theorem dX5_bare_1 : decode cX5_bare 1 = .ok (.iconst 0, 1) := by decide +kernel
theorem dX5_bare_2 : decode cX5_bare 2 = .ok (.bipush 30, 2) := by decide +kernel
theorem dX5_bare_4 : decode cX5_bare 4 = .ok (.invokestatic 138, 3) := by decide +kernel
theorem dX5_bare_7 : decode cX5_bare 7 = .ok (.istore_n 2, 1) := by decide +kernel
theorem dX5_bare_8 : decode cX5_bare 8 = .ok (.iload_n 2, 1) := by decide +kernel
theorem dX5_bare_9 : decode cX5_bare 9 = .ok (.ifCond .eq 9, 3) := by decide +kernel
theorem dX5_bare_12 : decode cX5_bare 12 = .ok (.aload_n 0, 1) := by decide +kernel
theorem dX5_bare_13 : decode cX5_bare 13 = .ok (.iload_n 2, 1) := by decide +kernel
theorem dX5_bare_14 : decode cX5_bare 14 = .ok (.invokevirtual 42, 3) := by decide +kernel
theorem dX5_bare_17 : decode cX5_bare 17 = .ok (.ireturn, 1) := by decide +kernel
theorem dX5_bare_18 : decode cX5_bare 18 = .ok (.aload_n 0, 1) := by decide +kernel
theorem dX5_bare_19 : decode cX5_bare 19 = .ok (.iload_n 1, 1) := by decide +kernel
theorem dX5_bare_20 : decode cX5_bare 20 = .ok (.invokevirtual 148, 3) := by decide +kernel
theorem dX5_bare_23 : decode cX5_bare 23 = .ok (.aload_n 0, 1) := by decide +kernel
theorem dX5_bare_24 : decode cX5_bare 24 = .ok (.invokevirtual 178, 3) := by decide +kernel
theorem dX5_bare_27 : decode cX5_bare 27 = .ok (.istore_n 3, 1) := by decide +kernel
theorem dX5_bare_28 : decode cX5_bare 28 = .ok (.bipush (-9), 2) := by decide +kernel
theorem dX5_bare_30 : decode cX5_bare 30 = .ok (.istore 4, 2) := by decide +kernel
theorem dX5_bare_32 : decode cX5_bare 32 = .ok (.iconst 0, 1) := by decide +kernel
theorem dX5_bare_33 : decode cX5_bare 33 = .ok (.istore 5, 2) := by decide +kernel
theorem dX5_bare_35 : decode cX5_bare 35 = .ok (.iload 5, 2) := by decide +kernel
theorem dX5_bare_37 : decode cX5_bare 37 = .ok (.aload_n 0, 1) := by decide +kernel
theorem dX5_bare_38 : decode cX5_bare 38 = .ok (.getfield 9, 3) := by decide +kernel
theorem dX5_bare_41 : decode cX5_bare 41 = .ok (.iconst 0, 1) := by decide +kernel
theorem dX5_bare_42 : decode cX5_bare 42 = .ok (.iaload, 1) := by decide +kernel
theorem dX5_bare_43 : decode cX5_bare 43 = .ok (.if_icmp .ge 61, 3) := by decide +kernel
theorem dX5_bare_46 : decode cX5_bare 46 = .ok (.aload_n 0, 1) := by decide +kernel
theorem dX5_bare_47 : decode cX5_bare 47 = .ok (.getfield 9, 3) := by decide +kernel
theorem dX5_bare_50 : decode cX5_bare 50 = .ok (.aload_n 0, 1) := by decide +kernel
theorem dX5_bare_51 : decode cX5_bare 51 = .ok (.getfield 13, 3) := by decide +kernel
theorem dX5_bare_54 : decode cX5_bare 54 = .ok (.invokestatic 127, 3) := by decide +kernel
theorem dX5_bare_57 : decode cX5_bare 57 = .ok (.aload_n 0, 1) := by decide +kernel
theorem dX5_bare_58 : decode cX5_bare 58 = .ok (.getfield 13, 3) := by decide +kernel
theorem dX5_bare_61 : decode cX5_bare 61 = .ok (.iload 5, 2) := by decide +kernel
theorem dX5_bare_63 : decode cX5_bare 63 = .ok (.iconst 5, 1) := by decide +kernel
theorem dX5_bare_64 : decode cX5_bare 64 = .ok (.invokestatic 58, 3) := by decide +kernel
theorem dX5_bare_67 : decode cX5_bare 67 = .ok (.iconst 0, 1) := by decide +kernel
theorem dX5_bare_68 : decode cX5_bare 68 = .ok (.iastore, 1) := by decide +kernel
theorem dX5_bare_69 : decode cX5_bare 69 = .ok (.aload_n 0, 1) := by decide +kernel
theorem dX5_bare_70 : decode cX5_bare 70 = .ok (.aload_n 0, 1) := by decide +kernel
theorem dX5_bare_71 : decode cX5_bare 71 = .ok (.getfield 13, 3) := by decide +kernel
theorem dX5_bare_74 : decode cX5_bare 74 = .ok (.iload_n 1, 1) := by decide +kernel
theorem dX5_bare_75 : decode cX5_bare 75 = .ok (.invokevirtual 121, 3) := by decide +kernel
theorem dX5_bare_78 : decode cX5_bare 78 = .ok (.aload_n 0, 1) := by decide +kernel
theorem dX5_bare_79 : decode cX5_bare 79 = .ok (.invokevirtual 178, 3) := by decide +kernel
theorem dX5_bare_82 : decode cX5_bare 82 = .ok (.iload_n 3, 1) := by decide +kernel
theorem dX5_bare_83 : decode cX5_bare 83 = .ok (.if_icmp .lt 6, 3) := by decide +kernel
theorem dX5_bare_86 : decode cX5_bare 86 = .ok (.goto 12, 3) := by decide +kernel
theorem dX5_bare_89 : decode cX5_bare 89 = .ok (.iload 5, 2) := by decide +kernel
theorem dX5_bare_91 : decode cX5_bare 91 = .ok (.istore 4, 2) := by decide +kernel
theorem dX5_bare_93 : decode cX5_bare 93 = .ok (.aload_n 0, 1) := by decide +kernel
theorem dX5_bare_94 : decode cX5_bare 94 = .ok (.invokevirtual 178, 3) := by decide +kernel
theorem dX5_bare_97 : decode cX5_bare 97 = .ok (.istore_n 3, 1) := by decide +kernel
theorem dX5_bare_98 : decode cX5_bare 98 = .ok (.iinc 5 1, 3) := by decide +kernel
theorem dX5_bare_101 : decode cX5_bare 101 = .ok (.goto (-66), 3) := by decide +kernel
theorem dX5_bare_104 : decode cX5_bare 104 = .ok (.iload 4, 2) := by decide +kernel
theorem dX5_bare_106 : decode cX5_bare 106 = .ok (.ireturn, 1) := by decide +kernel
theorem dX5_costBy_0 : decode cX5_costBy 0 = .ok (.aload_n 0, 1) := by decide +kernel
theorem dX5_costBy_1 : decode cX5_costBy 1 = .ok (.getfield 9, 3) := by decide +kernel
theorem dX5_costBy_4 : decode cX5_costBy 4 = .ok (.aload_n 0, 1) := by decide +kernel
theorem dX5_costBy_5 : decode cX5_costBy 5 = .ok (.getfield 13, 3) := by decide +kernel
theorem dX5_costBy_8 : decode cX5_costBy 8 = .ok (.invokestatic 127, 3) := by decide +kernel
theorem dX5_costBy_11 : decode cX5_costBy 11 = .ok (.iload_n 3, 1) := by decide +kernel
theorem dX5_costBy_12 : decode cX5_costBy 12 = .ok (.iconst 1, 1) := by decide +kernel
theorem dX5_costBy_13 : decode cX5_costBy 13 = .ok (.if_icmp .ne 11, 3) := by decide +kernel
theorem dX5_costBy_16 : decode cX5_costBy 16 = .ok (.aload_n 0, 1) := by decide +kernel
theorem dX5_costBy_17 : decode cX5_costBy 17 = .ok (.getfield 13, 3) := by decide +kernel
theorem dX5_costBy_20 : decode cX5_costBy 20 = .ok (.iload_n 2, 1) := by decide +kernel
theorem dX5_costBy_21 : decode cX5_costBy 21 = .ok (.invokestatic 108, 3) := by decide +kernel
theorem dX5_costBy_24 : decode cX5_costBy 24 = .ok (.iload 5, 2) := by decide +kernel
theorem dX5_costBy_26 : decode cX5_costBy 26 = .ok (.iconst 1, 1) := by decide +kernel
theorem dX5_costBy_27 : decode cX5_costBy 27 = .ok (.if_icmp .ne 12, 3) := by decide +kernel
theorem dX5_costBy_30 : decode cX5_costBy 30 = .ok (.aload_n 0, 1) := by decide +kernel
theorem dX5_costBy_31 : decode cX5_costBy 31 = .ok (.getfield 13, 3) := by decide +kernel
theorem dX5_costBy_34 : decode cX5_costBy 34 = .ok (.iload 4, 2) := by decide +kernel
theorem dX5_costBy_36 : decode cX5_costBy 36 = .ok (.invokestatic 108, 3) := by decide +kernel
theorem dX5_costBy_39 : decode cX5_costBy 39 = .ok (.aload_n 0, 1) := by decide +kernel
theorem dX5_costBy_40 : decode cX5_costBy 40 = .ok (.aload_n 0, 1) := by decide +kernel
theorem dX5_costBy_41 : decode cX5_costBy 41 = .ok (.getfield 13, 3) := by decide +kernel
theorem dX5_costBy_44 : decode cX5_costBy 44 = .ok (.iload 6, 2) := by decide +kernel
theorem dX5_costBy_46 : decode cX5_costBy 46 = .ok (.invokevirtual 121, 3) := by decide +kernel
theorem dX5_costBy_49 : decode cX5_costBy 49 = .ok (.aload_n 0, 1) := by decide +kernel
theorem dX5_costBy_50 : decode cX5_costBy 50 = .ok (.aload_n 0, 1) := by decide +kernel
theorem dX5_costBy_51 : decode cX5_costBy 51 = .ok (.getfield 13, 3) := by decide +kernel
theorem dX5_costBy_54 : decode cX5_costBy 54 = .ok (.iload_n 1, 1) := by decide +kernel
theorem dX5_costBy_55 : decode cX5_costBy 55 = .ok (.invokevirtual 174, 3) := by decide +kernel
theorem dX5_costBy_58 : decode cX5_costBy 58 = .ok (.iload_n 1, 1) := by decide +kernel
theorem dX5_costBy_59 : decode cX5_costBy 59 = .ok (.iload_n 2, 1) := by decide +kernel
theorem dX5_costBy_60 : decode cX5_costBy 60 = .ok (.if_icmp .ne 7, 3) := by decide +kernel
theorem dX5_costBy_63 : decode cX5_costBy 63 = .ok (.iload_n 3, 1) := by decide +kernel
theorem dX5_costBy_64 : decode cX5_costBy 64 = .ok (.goto 5, 3) := by decide +kernel
theorem dX5_costBy_67 : decode cX5_costBy 67 = .ok (.iload 5, 2) := by decide +kernel
theorem dX5_costBy_69 : decode cX5_costBy 69 = .ok (.iadd, 1) := by decide +kernel
theorem dX5_costBy_70 : decode cX5_costBy 70 = .ok (.ireturn, 1) := by decide +kernel
theorem dX5_two_0 : decode cX5_two 0 = .ok (.aload_n 0, 1) := by decide +kernel
theorem dX5_two_1 : decode cX5_two 1 = .ok (.iload_n 1, 1) := by decide +kernel
theorem dX5_two_2 : decode cX5_two 2 = .ok (.invokevirtual 118, 3) := by decide +kernel
theorem dX5_two_5 : decode cX5_two 5 = .ok (.ifCond .eq 26, 3) := by decide +kernel
theorem dX5_two_8 : decode cX5_two 8 = .ok (.aload_n 0, 1) := by decide +kernel
theorem dX5_two_9 : decode cX5_two 9 = .ok (.iload_n 2, 1) := by decide +kernel
theorem dX5_two_10 : decode cX5_two 10 = .ok (.invokevirtual 118, 3) := by decide +kernel
theorem dX5_two_13 : decode cX5_two 13 = .ok (.ifCond .eq 18, 3) := by decide +kernel
theorem dX5_two_16 : decode cX5_two 16 = .ok (.iload_n 1, 1) := by decide +kernel
theorem dX5_two_17 : decode cX5_two 17 = .ok (.iload_n 2, 1) := by decide +kernel
theorem dX5_two_18 : decode cX5_two 18 = .ok (.if_icmp .eq 13, 3) := by decide +kernel
theorem dX5_two_21 : decode cX5_two 21 = .ok (.iload_n 3, 1) := by decide +kernel
theorem dX5_two_22 : decode cX5_two 22 = .ok (.iconst 0, 1) := by decide +kernel
theorem dX5_two_23 : decode cX5_two 23 = .ok (.bipush 30, 2) := by decide +kernel
theorem dX5_two_25 : decode cX5_two 25 = .ok (.invokestatic 138, 3) := by decide +kernel
theorem dX5_two_28 : decode cX5_two 28 = .ok (.goto 4, 3) := by decide +kernel
theorem dX5_two_31 : decode cX5_two 31 = .ok (.iconst (-1), 1) := by decide +kernel
theorem dX5_two_32 : decode cX5_two 32 = .ok (.istore 4, 2) := by decide +kernel
theorem dX5_two_34 : decode cX5_two 34 = .ok (.iload 4, 2) := by decide +kernel
theorem dX5_two_36 : decode cX5_two 36 = .ok (.ifCond .eq 10, 3) := by decide +kernel
theorem dX5_two_39 : decode cX5_two 39 = .ok (.aload_n 0, 1) := by decide +kernel
theorem dX5_two_40 : decode cX5_two 40 = .ok (.iload 4, 2) := by decide +kernel
theorem dX5_two_42 : decode cX5_two 42 = .ok (.invokevirtual 42, 3) := by decide +kernel
theorem dX5_two_45 : decode cX5_two 45 = .ok (.ireturn, 1) := by decide +kernel
theorem dX5_two_46 : decode cX5_two 46 = .ok (.iconst 0, 1) := by decide +kernel
theorem dX5_two_47 : decode cX5_two 47 = .ok (.istore 5, 2) := by decide +kernel
theorem dX5_two_49 : decode cX5_two 49 = .ok (.iload 5, 2) := by decide +kernel
theorem dX5_two_51 : decode cX5_two 51 = .ok (.iconst 4, 1) := by decide +kernel
theorem dX5_two_52 : decode cX5_two 52 = .ok (.if_icmp .ge 88, 3) := by decide +kernel
theorem dX5_two_55 : decode cX5_two 55 = .ok (.iload 5, 2) := by decide +kernel
theorem dX5_two_57 : decode cX5_two 57 = .ok (.iconst 2, 1) := by decide +kernel
theorem dX5_two_58 : decode cX5_two 58 = .ok (.idiv, 1) := by decide +kernel
theorem dX5_two_59 : decode cX5_two 59 = .ok (.istore 6, 2) := by decide +kernel
theorem dX5_two_61 : decode cX5_two 61 = .ok (.iload 5, 2) := by decide +kernel
theorem dX5_two_63 : decode cX5_two 63 = .ok (.iconst 2, 1) := by decide +kernel
theorem dX5_two_64 : decode cX5_two 64 = .ok (.irem, 1) := by decide +kernel
theorem dX5_two_65 : decode cX5_two 65 = .ok (.istore 7, 2) := by decide +kernel
theorem dX5_two_67 : decode cX5_two 67 = .ok (.aload_n 0, 1) := by decide +kernel
theorem dX5_two_68 : decode cX5_two 68 = .ok (.iload_n 1, 1) := by decide +kernel
theorem dX5_two_69 : decode cX5_two 69 = .ok (.iload_n 1, 1) := by decide +kernel
theorem dX5_two_70 : decode cX5_two 70 = .ok (.iconst 1, 1) := by decide +kernel
theorem dX5_two_71 : decode cX5_two 71 = .ok (.iload 6, 2) := by decide +kernel
theorem dX5_two_73 : decode cX5_two 73 = .ok (.isub, 1) := by decide +kernel
theorem dX5_two_74 : decode cX5_two 74 = .ok (.iload_n 2, 1) := by decide +kernel
theorem dX5_two_75 : decode cX5_two 75 = .ok (.iload 7, 2) := by decide +kernel
theorem dX5_two_77 : decode cX5_two 77 = .ok (.iload_n 3, 1) := by decide +kernel
theorem dX5_two_78 : decode cX5_two 78 = .ok (.invokevirtual 181, 3) := by decide +kernel
theorem dX5_two_81 : decode cX5_two 81 = .ok (.aload_n 0, 1) := by decide +kernel
theorem dX5_two_82 : decode cX5_two 82 = .ok (.iload_n 1, 1) := by decide +kernel
theorem dX5_two_83 : decode cX5_two 83 = .ok (.iload_n 1, 1) := by decide +kernel
theorem dX5_two_84 : decode cX5_two 84 = .ok (.iload 6, 2) := by decide +kernel
theorem dX5_two_86 : decode cX5_two 86 = .ok (.iload_n 2, 1) := by decide +kernel
theorem dX5_two_87 : decode cX5_two 87 = .ok (.iload 7, 2) := by decide +kernel
theorem dX5_two_89 : decode cX5_two 89 = .ok (.iload_n 3, 1) := by decide +kernel
theorem dX5_two_90 : decode cX5_two 90 = .ok (.invokevirtual 181, 3) := by decide +kernel
theorem dX5_two_93 : decode cX5_two 93 = .ok (.if_icmp .lt 41, 3) := by decide +kernel
theorem dX5_two_96 : decode cX5_two 96 = .ok (.aload_n 0, 1) := by decide +kernel
theorem dX5_two_97 : decode cX5_two 97 = .ok (.iload_n 2, 1) := by decide +kernel
theorem dX5_two_98 : decode cX5_two 98 = .ok (.iload_n 1, 1) := by decide +kernel
theorem dX5_two_99 : decode cX5_two 99 = .ok (.iload 6, 2) := by decide +kernel
theorem dX5_two_101 : decode cX5_two 101 = .ok (.iload_n 2, 1) := by decide +kernel
theorem dX5_two_102 : decode cX5_two 102 = .ok (.iconst 1, 1) := by decide +kernel
theorem dX5_two_103 : decode cX5_two 103 = .ok (.iload 7, 2) := by decide +kernel
theorem dX5_two_105 : decode cX5_two 105 = .ok (.isub, 1) := by decide +kernel
theorem dX5_two_106 : decode cX5_two 106 = .ok (.iload_n 3, 1) := by decide +kernel
theorem dX5_two_107 : decode cX5_two 107 = .ok (.invokevirtual 181, 3) := by decide +kernel
theorem dX5_two_110 : decode cX5_two 110 = .ok (.aload_n 0, 1) := by decide +kernel
theorem dX5_two_111 : decode cX5_two 111 = .ok (.iload_n 2, 1) := by decide +kernel
theorem dX5_two_112 : decode cX5_two 112 = .ok (.iload_n 1, 1) := by decide +kernel
theorem dX5_two_113 : decode cX5_two 113 = .ok (.iload 6, 2) := by decide +kernel
theorem dX5_two_115 : decode cX5_two 115 = .ok (.iload_n 2, 1) := by decide +kernel
theorem dX5_two_116 : decode cX5_two 116 = .ok (.iload 7, 2) := by decide +kernel
theorem dX5_two_118 : decode cX5_two 118 = .ok (.iload_n 3, 1) := by decide +kernel
theorem dX5_two_119 : decode cX5_two 119 = .ok (.invokevirtual 181, 3) := by decide +kernel
theorem dX5_two_122 : decode cX5_two 122 = .ok (.if_icmp .lt 12, 3) := by decide +kernel
theorem dX5_two_125 : decode cX5_two 125 = .ok (.bipush 10, 2) := by decide +kernel
theorem dX5_two_127 : decode cX5_two 127 = .ok (.iload 6, 2) := by decide +kernel
theorem dX5_two_129 : decode cX5_two 129 = .ok (.imul, 1) := by decide +kernel
theorem dX5_two_130 : decode cX5_two 130 = .ok (.iload 7, 2) := by decide +kernel
theorem dX5_two_132 : decode cX5_two 132 = .ok (.iadd, 1) := by decide +kernel
theorem dX5_two_133 : decode cX5_two 133 = .ok (.ireturn, 1) := by decide +kernel
theorem dX5_two_134 : decode cX5_two 134 = .ok (.iinc 5 1, 3) := by decide +kernel
theorem dX5_two_137 : decode cX5_two 137 = .ok (.goto (-88), 3) := by decide +kernel
theorem dX5_two_140 : decode cX5_two 140 = .ok (.bipush (-9), 2) := by decide +kernel
theorem dX5_two_142 : decode cX5_two 142 = .ok (.ireturn, 1) := by decide +kernel
theorem dX5_gcd_0 : decode cX5_gcd 0 = .ok (.lload_n 0, 1) := by decide +kernel
theorem dX5_gcd_1 : decode cX5_gcd 1 = .ok (.lstore 4, 2) := by decide +kernel
theorem dX5_gcd_3 : decode cX5_gcd 3 = .ok (.lload_n 2, 1) := by decide +kernel
theorem dX5_gcd_4 : decode cX5_gcd 4 = .ok (.lstore 6, 2) := by decide +kernel
theorem dX5_gcd_6 : decode cX5_gcd 6 = .ok (.lload 6, 2) := by decide +kernel
theorem dX5_gcd_8 : decode cX5_gcd 8 = .ok (.lconst 0, 1) := by decide +kernel
theorem dX5_gcd_9 : decode cX5_gcd 9 = .ok (.lcmp, 1) := by decide +kernel
theorem dX5_gcd_10 : decode cX5_gcd 10 = .ok (.ifCond .eq 21, 3) := by decide +kernel
theorem dX5_gcd_13 : decode cX5_gcd 13 = .ok (.lload 4, 2) := by decide +kernel
theorem dX5_gcd_15 : decode cX5_gcd 15 = .ok (.lload 6, 2) := by decide +kernel
theorem dX5_gcd_17 : decode cX5_gcd 17 = .ok (.lrem, 1) := by decide +kernel
theorem dX5_gcd_18 : decode cX5_gcd 18 = .ok (.lstore 8, 2) := by decide +kernel
theorem dX5_gcd_20 : decode cX5_gcd 20 = .ok (.lload 6, 2) := by decide +kernel
theorem dX5_gcd_22 : decode cX5_gcd 22 = .ok (.lstore 4, 2) := by decide +kernel
theorem dX5_gcd_24 : decode cX5_gcd 24 = .ok (.lload 8, 2) := by decide +kernel
theorem dX5_gcd_26 : decode cX5_gcd 26 = .ok (.lstore 6, 2) := by decide +kernel
theorem dX5_gcd_28 : decode cX5_gcd 28 = .ok (.goto (-22), 3) := by decide +kernel
theorem dX5_gcd_31 : decode cX5_gcd 31 = .ok (.lload 4, 2) := by decide +kernel
theorem dX5_gcd_33 : decode cX5_gcd 33 = .ok (.lreturn, 1) := by decide +kernel
theorem dX5_partOf_0 : decode cX5_partOf 0 = .ok (.lload_n 0, 1) := by decide +kernel
theorem dX5_partOf_1 : decode cX5_partOf 1 = .ok (.lconst 0, 1) := by decide +kernel
theorem dX5_partOf_2 : decode cX5_partOf 2 = .ok (.lcmp, 1) := by decide +kernel
theorem dX5_partOf_3 : decode cX5_partOf 3 = .ok (.ifCond .ne 7, 3) := by decide +kernel
theorem dX5_partOf_6 : decode cX5_partOf 6 = .ok (.iload 4, 2) := by decide +kernel
theorem dX5_partOf_8 : decode cX5_partOf 8 = .ok (.i2l, 1) := by decide +kernel
theorem dX5_partOf_9 : decode cX5_partOf 9 = .ok (.lreturn, 1) := by decide +kernel
theorem dX5_partOf_10 : decode cX5_partOf 10 = .ok (.iload 4, 2) := by decide +kernel
theorem dX5_partOf_12 : decode cX5_partOf 12 = .ok (.ifCond .ne 7, 3) := by decide +kernel
theorem dX5_partOf_15 : decode cX5_partOf 15 = .ok (.lload_n 0, 1) := by decide +kernel
theorem dX5_partOf_16 : decode cX5_partOf 16 = .ok (.goto 4, 3) := by decide +kernel
theorem dX5_partOf_19 : decode cX5_partOf 19 = .ok (.lload_n 2, 1) := by decide +kernel
theorem dX5_partOf_20 : decode cX5_partOf 20 = .ok (.lload_n 0, 1) := by decide +kernel
theorem dX5_partOf_21 : decode cX5_partOf 21 = .ok (.lload_n 2, 1) := by decide +kernel
theorem dX5_partOf_22 : decode cX5_partOf 22 = .ok (.invokestatic 185, 3) := by decide +kernel
theorem dX5_partOf_25 : decode cX5_partOf 25 = .ok (.ldiv, 1) := by decide +kernel
theorem dX5_partOf_26 : decode cX5_partOf 26 = .ok (.lreturn, 1) := by decide +kernel
theorem dX5_mud_0 : decode cX5_mud 0 = .ok (.aload_n 0, 1) := by decide +kernel
theorem dX5_mud_1 : decode cX5_mud 1 = .ok (.iload_n 1, 1) := by decide +kernel
theorem dX5_mud_2 : decode cX5_mud 2 = .ok (.iload_n 2, 1) := by decide +kernel
theorem dX5_mud_3 : decode cX5_mud 3 = .ok (.invokevirtual 155, 3) := by decide +kernel
theorem dX5_mud_6 : decode cX5_mud 6 = .ok (.ifCond .eq 9, 3) := by decide +kernel
theorem dX5_mud_9 : decode cX5_mud 9 = .ok (.aload_n 0, 1) := by decide +kernel
theorem dX5_mud_10 : decode cX5_mud 10 = .ok (.iconst (-1), 1) := by decide +kernel
theorem dX5_mud_11 : decode cX5_mud 11 = .ok (.invokevirtual 189, 3) := by decide +kernel
theorem dX5_mud_14 : decode cX5_mud 14 = .ok (.lreturn, 1) := by decide +kernel
theorem dX5_mud_15 : decode cX5_mud 15 = .ok (.iload_n 3, 1) := by decide +kernel
theorem dX5_mud_16 : decode cX5_mud 16 = .ok (.ifCond .lt 9, 3) := by decide +kernel
theorem dX5_mud_19 : decode cX5_mud 19 = .ok (.iload 4, 2) := by decide +kernel
theorem dX5_mud_21 : decode cX5_mud 21 = .ok (.iconst 2, 1) := by decide +kernel
theorem dX5_mud_22 : decode cX5_mud 22 = .ok (.if_icmp .ge 10, 3) := by decide +kernel
theorem dX5_mud_25 : decode cX5_mud 25 = .ok (.aload_n 0, 1) := by decide +kernel
theorem dX5_mud_26 : decode cX5_mud 26 = .ok (.bipush (-4), 2) := by decide +kernel
theorem dX5_mud_28 : decode cX5_mud 28 = .ok (.invokevirtual 189, 3) := by decide +kernel
theorem dX5_mud_31 : decode cX5_mud 31 = .ok (.lreturn, 1) := by decide +kernel
theorem dX5_mud_32 : decode cX5_mud 32 = .ok (.iload_n 3, 1) := by decide +kernel
theorem dX5_mud_33 : decode cX5_mud 33 = .ok (.bipush 7, 2) := by decide +kernel
theorem dX5_mud_35 : decode cX5_mud 35 = .ok (.if_icmp .gt 10, 3) := by decide +kernel
theorem dX5_mud_38 : decode cX5_mud 38 = .ok (.iload 4, 2) := by decide +kernel
theorem dX5_mud_40 : decode cX5_mud 40 = .ok (.bipush 20, 2) := by decide +kernel
theorem dX5_mud_42 : decode cX5_mud 42 = .ok (.if_icmp .le 10, 3) := by decide +kernel
theorem dX5_mud_45 : decode cX5_mud 45 = .ok (.aload_n 0, 1) := by decide +kernel
theorem dX5_mud_46 : decode cX5_mud 46 = .ok (.bipush (-6), 2) := by decide +kernel
theorem dX5_mud_48 : decode cX5_mud 48 = .ok (.invokevirtual 189, 3) := by decide +kernel
theorem dX5_mud_51 : decode cX5_mud 51 = .ok (.lreturn, 1) := by decide +kernel
theorem dX5_mud_52 : decode cX5_mud 52 = .ok (.iload 5, 2) := by decide +kernel
theorem dX5_mud_54 : decode cX5_mud 54 = .ok (.iconst 0, 1) := by decide +kernel
theorem dX5_mud_55 : decode cX5_mud 55 = .ok (.iconst 1, 1) := by decide +kernel
theorem dX5_mud_56 : decode cX5_mud 56 = .ok (.invokestatic 46, 3) := by decide +kernel
theorem dX5_mud_59 : decode cX5_mud 59 = .ok (.ifCond .ne 10, 3) := by decide +kernel
theorem dX5_mud_62 : decode cX5_mud 62 = .ok (.aload_n 0, 1) := by decide +kernel
theorem dX5_mud_63 : decode cX5_mud 63 = .ok (.bipush (-2), 2) := by decide +kernel
theorem dX5_mud_65 : decode cX5_mud 65 = .ok (.invokevirtual 189, 3) := by decide +kernel
theorem dX5_mud_68 : decode cX5_mud 68 = .ok (.lreturn, 1) := by decide +kernel
theorem dX5_mud_69 : decode cX5_mud 69 = .ok (.lconst 0, 1) := by decide +kernel
theorem dX5_mud_70 : decode cX5_mud 70 = .ok (.lstore 6, 2) := by decide +kernel
theorem dX5_mud_72 : decode cX5_mud 72 = .ok (.lconst 1, 1) := by decide +kernel
theorem dX5_mud_73 : decode cX5_mud 73 = .ok (.lstore 8, 2) := by decide +kernel
theorem dX5_mud_75 : decode cX5_mud 75 = .ok (.iconst 0, 1) := by decide +kernel
theorem dX5_mud_76 : decode cX5_mud 76 = .ok (.istore 10, 2) := by decide +kernel
theorem dX5_mud_78 : decode cX5_mud 78 = .ok (.iload 10, 2) := by decide +kernel
theorem dX5_mud_80 : decode cX5_mud 80 = .ok (.iload_n 3, 1) := by decide +kernel
theorem dX5_mud_81 : decode cX5_mud 81 = .ok (.if_icmp .ge 17, 3) := by decide +kernel
theorem dX5_mud_84 : decode cX5_mud 84 = .ok (.lload 8, 2) := by decide +kernel
theorem dX5_mud_86 : decode cX5_mud 86 = .ok (.iload 4, 2) := by decide +kernel
theorem dX5_mud_88 : decode cX5_mud 88 = .ok (.i2l, 1) := by decide +kernel
theorem dX5_mud_89 : decode cX5_mud 89 = .ok (.lmul, 1) := by decide +kernel
theorem dX5_mud_90 : decode cX5_mud 90 = .ok (.lstore 8, 2) := by decide +kernel
theorem dX5_mud_92 : decode cX5_mud 92 = .ok (.iinc 10 1, 3) := by decide +kernel
theorem dX5_mud_95 : decode cX5_mud 95 = .ok (.goto (-17), 3) := by decide +kernel
theorem dX5_mud_98 : decode cX5_mud 98 = .ok (.iconst 0, 1) := by decide +kernel
theorem dX5_mud_99 : decode cX5_mud 99 = .ok (.istore 10, 2) := by decide +kernel
theorem dX5_mud_101 : decode cX5_mud 101 = .ok (.iload 10, 2) := by decide +kernel
theorem dX5_mud_103 : decode cX5_mud 103 = .ok (.iconst 1, 1) := by decide +kernel
theorem dX5_mud_104 : decode cX5_mud 104 = .ok (.iload_n 3, 1) := by decide +kernel
theorem dX5_mud_105 : decode cX5_mud 105 = .ok (.ishl, 1) := by decide +kernel
theorem dX5_mud_106 : decode cX5_mud 106 = .ok (.if_icmp .ge 96, 3) := by decide +kernel
theorem dX5_mud_109 : decode cX5_mud 109 = .ok (.lconst 1, 1) := by decide +kernel
theorem dX5_mud_110 : decode cX5_mud 110 = .ok (.lstore 11, 2) := by decide +kernel
theorem dX5_mud_112 : decode cX5_mud 112 = .ok (.aload_n 0, 1) := by decide +kernel
theorem dX5_mud_113 : decode cX5_mud 113 = .ok (.iconst 0, 1) := by decide +kernel
theorem dX5_mud_114 : decode cX5_mud 114 = .ok (.invokevirtual 148, 3) := by decide +kernel
theorem dX5_mud_117 : decode cX5_mud 117 = .ok (.iconst 0, 1) := by decide +kernel
theorem dX5_mud_118 : decode cX5_mud 118 = .ok (.istore 13, 2) := by decide +kernel
theorem dX5_mud_120 : decode cX5_mud 120 = .ok (.iload 13, 2) := by decide +kernel
theorem dX5_mud_122 : decode cX5_mud 122 = .ok (.iload_n 3, 1) := by decide +kernel
theorem dX5_mud_123 : decode cX5_mud 123 = .ok (.if_icmp .ge 48, 3) := by decide +kernel
theorem dX5_mud_126 : decode cX5_mud 126 = .ok (.lload 11, 2) := by decide +kernel
theorem dX5_mud_128 : decode cX5_mud 128 = .ok (.iload 10, 2) := by decide +kernel
theorem dX5_mud_130 : decode cX5_mud 130 = .ok (.iload 13, 2) := by decide +kernel
theorem dX5_mud_132 : decode cX5_mud 132 = .ok (.invokestatic 50, 3) := by decide +kernel
theorem dX5_mud_135 : decode cX5_mud 135 = .ok (.ifCond .eq 7, 3) := by decide +kernel
theorem dX5_mud_138 : decode cX5_mud 138 = .ok (.lconst 1, 1) := by decide +kernel
theorem dX5_mud_139 : decode cX5_mud 139 = .ok (.goto 8, 3) := by decide +kernel
theorem dX5_mud_142 : decode cX5_mud 142 = .ok (.iload 4, 2) := by decide +kernel
theorem dX5_mud_144 : decode cX5_mud 144 = .ok (.iconst 1, 1) := by decide +kernel
theorem dX5_mud_145 : decode cX5_mud 145 = .ok (.isub, 1) := by decide +kernel
theorem dX5_mud_146 : decode cX5_mud 146 = .ok (.i2l, 1) := by decide +kernel
theorem dX5_mud_147 : decode cX5_mud 147 = .ok (.lmul, 1) := by decide +kernel
theorem dX5_mud_148 : decode cX5_mud 148 = .ok (.lstore 11, 2) := by decide +kernel
theorem dX5_mud_150 : decode cX5_mud 150 = .ok (.aload_n 0, 1) := by decide +kernel
theorem dX5_mud_151 : decode cX5_mud 151 = .ok (.aload_n 0, 1) := by decide +kernel
theorem dX5_mud_152 : decode cX5_mud 152 = .ok (.getfield 13, 3) := by decide +kernel
theorem dX5_mud_155 : decode cX5_mud 155 = .ok (.iload 10, 2) := by decide +kernel
theorem dX5_mud_157 : decode cX5_mud 157 = .ok (.iload 13, 2) := by decide +kernel
theorem dX5_mud_159 : decode cX5_mud 159 = .ok (.invokestatic 50, 3) := by decide +kernel
theorem dX5_mud_162 : decode cX5_mud 162 = .ok (.invokevirtual 76, 3) := by decide +kernel
theorem dX5_mud_165 : decode cX5_mud 165 = .ok (.iinc 13 1, 3) := by decide +kernel
theorem dX5_mud_168 : decode cX5_mud 168 = .ok (.goto (-48), 3) := by decide +kernel
theorem dX5_mud_171 : decode cX5_mud 171 = .ok (.lload 6, 2) := by decide +kernel
theorem dX5_mud_173 : decode cX5_mud 173 = .ok (.aload_n 0, 1) := by decide +kernel
theorem dX5_mud_174 : decode cX5_mud 174 = .ok (.getfield 13, 3) := by decide +kernel
theorem dX5_mud_177 : decode cX5_mud 177 = .ok (.iload_n 1, 1) := by decide +kernel
theorem dX5_mud_178 : decode cX5_mud 178 = .ok (.iconst 4, 1) := by decide +kernel
theorem dX5_mud_179 : decode cX5_mud 179 = .ok (.invokestatic 58, 3) := by decide +kernel
theorem dX5_mud_182 : decode cX5_mud 182 = .ok (.iaload, 1) := by decide +kernel
theorem dX5_mud_183 : decode cX5_mud 183 = .ok (.iload_n 2, 1) := by decide +kernel
theorem dX5_mud_184 : decode cX5_mud 184 = .ok (.if_icmp .ne 8, 3) := by decide +kernel
theorem dX5_mud_187 : decode cX5_mud 187 = .ok (.lload 11, 2) := by decide +kernel
theorem dX5_mud_189 : decode cX5_mud 189 = .ok (.goto 4, 3) := by decide +kernel
theorem dX5_mud_192 : decode cX5_mud 192 = .ok (.lconst 0, 1) := by decide +kernel
theorem dX5_mud_193 : decode cX5_mud 193 = .ok (.ladd, 1) := by decide +kernel
theorem dX5_mud_194 : decode cX5_mud 194 = .ok (.lstore 6, 2) := by decide +kernel
theorem dX5_mud_196 : decode cX5_mud 196 = .ok (.iinc 10 1, 3) := by decide +kernel
theorem dX5_mud_199 : decode cX5_mud 199 = .ok (.goto (-98), 3) := by decide +kernel
theorem dX5_mud_202 : decode cX5_mud 202 = .ok (.lload 6, 2) := by decide +kernel
theorem dX5_mud_204 : decode cX5_mud 204 = .ok (.lload 8, 2) := by decide +kernel
theorem dX5_mud_206 : decode cX5_mud 206 = .ok (.iload 5, 2) := by decide +kernel
theorem dX5_mud_208 : decode cX5_mud 208 = .ok (.invokestatic 193, 3) := by decide +kernel
theorem dX5_mud_211 : decode cX5_mud 211 = .ok (.lreturn, 1) := by decide +kernel
theorem dX5_sum_0 : decode cX5_sum 0 = .ok (.iconst 0, 1) := by decide +kernel
theorem dX5_sum_1 : decode cX5_sum 1 = .ok (.istore_n 2, 1) := by decide +kernel
theorem dX5_sum_2 : decode cX5_sum 2 = .ok (.iconst 0, 1) := by decide +kernel
theorem dX5_sum_3 : decode cX5_sum 3 = .ok (.istore_n 3, 1) := by decide +kernel
theorem dX5_sum_4 : decode cX5_sum 4 = .ok (.iload_n 3, 1) := by decide +kernel
theorem dX5_sum_5 : decode cX5_sum 5 = .ok (.aload_n 0, 1) := by decide +kernel
theorem dX5_sum_6 : decode cX5_sum 6 = .ok (.getfield 9, 3) := by decide +kernel
theorem dX5_sum_9 : decode cX5_sum 9 = .ok (.iconst 0, 1) := by decide +kernel
theorem dX5_sum_10 : decode cX5_sum 10 = .ok (.iaload, 1) := by decide +kernel
theorem dX5_sum_11 : decode cX5_sum 11 = .ok (.if_icmp .ge 22, 3) := by decide +kernel
theorem dX5_sum_14 : decode cX5_sum 14 = .ok (.iload_n 2, 1) := by decide +kernel
theorem dX5_sum_15 : decode cX5_sum 15 = .ok (.aload_n 0, 1) := by decide +kernel
theorem dX5_sum_16 : decode cX5_sum 16 = .ok (.getfield 9, 3) := by decide +kernel
theorem dX5_sum_19 : decode cX5_sum 19 = .ok (.iload_n 3, 1) := by decide +kernel
theorem dX5_sum_20 : decode cX5_sum 20 = .ok (.iload_n 1, 1) := by decide +kernel
theorem dX5_sum_21 : decode cX5_sum 21 = .ok (.invokestatic 58, 3) := by decide +kernel
theorem dX5_sum_24 : decode cX5_sum 24 = .ok (.iaload, 1) := by decide +kernel
theorem dX5_sum_25 : decode cX5_sum 25 = .ok (.iadd, 1) := by decide +kernel
theorem dX5_sum_26 : decode cX5_sum 26 = .ok (.istore_n 2, 1) := by decide +kernel
theorem dX5_sum_27 : decode cX5_sum 27 = .ok (.iinc 3 1, 3) := by decide +kernel
theorem dX5_sum_30 : decode cX5_sum 30 = .ok (.goto (-26), 3) := by decide +kernel
theorem dX5_sum_33 : decode cX5_sum 33 = .ok (.iload_n 2, 1) := by decide +kernel
theorem dX5_sum_34 : decode cX5_sum 34 = .ok (.ireturn, 1) := by decide +kernel
theorem dX5_mean_0 : decode cX5_mean 0 = .ok (.iload_n 1, 1) := by decide +kernel
theorem dX5_mean_1 : decode cX5_mean 1 = .ok (.iconst 0, 1) := by decide +kernel
theorem dX5_mean_2 : decode cX5_mean 2 = .ok (.iconst 1, 1) := by decide +kernel
theorem dX5_mean_3 : decode cX5_mean 3 = .ok (.invokestatic 46, 3) := by decide +kernel
theorem dX5_mean_6 : decode cX5_mean 6 = .ok (.ifCond .eq 23, 3) := by decide +kernel
theorem dX5_mean_9 : decode cX5_mean 9 = .ok (.aload_n 0, 1) := by decide +kernel
theorem dX5_mean_10 : decode cX5_mean 10 = .ok (.iconst 5, 1) := by decide +kernel
theorem dX5_mean_11 : decode cX5_mean 11 = .ok (.invokevirtual 197, 3) := by decide +kernel
theorem dX5_mean_14 : decode cX5_mean 14 = .ok (.i2l, 1) := by decide +kernel
theorem dX5_mean_15 : decode cX5_mean 15 = .ok (.aload_n 0, 1) := by decide +kernel
theorem dX5_mean_16 : decode cX5_mean 16 = .ok (.getfield 9, 3) := by decide +kernel
theorem dX5_mean_19 : decode cX5_mean 19 = .ok (.iconst 0, 1) := by decide +kernel
theorem dX5_mean_20 : decode cX5_mean 20 = .ok (.iaload, 1) := by decide +kernel
theorem dX5_mean_21 : decode cX5_mean 21 = .ok (.i2l, 1) := by decide +kernel
theorem dX5_mean_22 : decode cX5_mean 22 = .ok (.iload_n 1, 1) := by decide +kernel
theorem dX5_mean_23 : decode cX5_mean 23 = .ok (.invokestatic 193, 3) := by decide +kernel
theorem dX5_mean_26 : decode cX5_mean 26 = .ok (.goto 9, 3) := by decide +kernel
theorem dX5_mean_29 : decode cX5_mean 29 = .ok (.aload_n 0, 1) := by decide +kernel
theorem dX5_mean_30 : decode cX5_mean 30 = .ok (.bipush (-2), 2) := by decide +kernel
theorem dX5_mean_32 : decode cX5_mean 32 = .ok (.invokevirtual 189, 3) := by decide +kernel
theorem dX5_mean_35 : decode cX5_mean 35 = .ok (.lreturn, 1) := by decide +kernel
theorem dX5_whatWanted_0 : decode cX5_whatWanted 0 = .ok (.aload_n 0, 1) := by decide +kernel
theorem dX5_whatWanted_1 : decode cX5_whatWanted 1 = .ok (.iload_n 1, 1) := by decide +kernel
theorem dX5_whatWanted_2 : decode cX5_whatWanted 2 = .ok (.invokevirtual 118, 3) := by decide +kernel
theorem dX5_whatWanted_5 : decode cX5_whatWanted 5 = .ok (.ifCond .ne 9, 3) := by decide +kernel
theorem dX5_whatWanted_8 : decode cX5_whatWanted 8 = .ok (.aload_n 0, 1) := by decide +kernel
theorem dX5_whatWanted_9 : decode cX5_whatWanted 9 = .ok (.iconst (-1), 1) := by decide +kernel
theorem dX5_whatWanted_10 : decode cX5_whatWanted 10 = .ok (.invokevirtual 42, 3) := by decide +kernel
theorem dX5_whatWanted_13 : decode cX5_whatWanted 13 = .ok (.ireturn, 1) := by decide +kernel
theorem dX5_whatWanted_14 : decode cX5_whatWanted 14 = .ok (.iload_n 2, 1) := by decide +kernel
theorem dX5_whatWanted_15 : decode cX5_whatWanted 15 = .ok (.iconst 0, 1) := by decide +kernel
theorem dX5_whatWanted_16 : decode cX5_whatWanted 16 = .ok (.iconst 1, 1) := by decide +kernel
theorem dX5_whatWanted_17 : decode cX5_whatWanted 17 = .ok (.invokestatic 46, 3) := by decide +kernel
theorem dX5_whatWanted_20 : decode cX5_whatWanted 20 = .ok (.ifCond .ne 10, 3) := by decide +kernel
theorem dX5_whatWanted_23 : decode cX5_whatWanted 23 = .ok (.aload_n 0, 1) := by decide +kernel
theorem dX5_whatWanted_24 : decode cX5_whatWanted 24 = .ok (.bipush (-2), 2) := by decide +kernel
theorem dX5_whatWanted_26 : decode cX5_whatWanted 26 = .ok (.invokevirtual 42, 3) := by decide +kernel
theorem dX5_whatWanted_29 : decode cX5_whatWanted 29 = .ok (.ireturn, 1) := by decide +kernel
theorem dX5_whatWanted_30 : decode cX5_whatWanted 30 = .ok (.iconst 0, 1) := by decide +kernel
theorem dX5_whatWanted_31 : decode cX5_whatWanted 31 = .ok (.istore_n 3, 1) := by decide +kernel
theorem dX5_whatWanted_32 : decode cX5_whatWanted 32 = .ok (.iconst 0, 1) := by decide +kernel
theorem dX5_whatWanted_33 : decode cX5_whatWanted 33 = .ok (.istore 4, 2) := by decide +kernel
theorem dX5_whatWanted_35 : decode cX5_whatWanted 35 = .ok (.iload 4, 2) := by decide +kernel
theorem dX5_whatWanted_37 : decode cX5_whatWanted 37 = .ok (.iload_n 2, 1) := by decide +kernel
theorem dX5_whatWanted_38 : decode cX5_whatWanted 38 = .ok (.ifCond .ne 8, 3) := by decide +kernel
theorem dX5_whatWanted_41 : decode cX5_whatWanted 41 = .ok (.bipush 8, 2) := by decide +kernel
theorem dX5_whatWanted_43 : decode cX5_whatWanted 43 = .ok (.goto 5, 3) := by decide +kernel
theorem dX5_whatWanted_46 : decode cX5_whatWanted 46 = .ok (.bipush 6, 2) := by decide +kernel
theorem dX5_whatWanted_48 : decode cX5_whatWanted 48 = .ok (.if_icmp .ge 110, 3) := by decide +kernel
theorem dX5_whatWanted_51 : decode cX5_whatWanted 51 = .ok (.iconst 1, 1) := by decide +kernel
theorem dX5_whatWanted_52 : decode cX5_whatWanted 52 = .ok (.istore 5, 2) := by decide +kernel
theorem dX5_whatWanted_54 : decode cX5_whatWanted 54 = .ok (.aload_n 0, 1) := by decide +kernel
theorem dX5_whatWanted_55 : decode cX5_whatWanted 55 = .ok (.iconst 0, 1) := by decide +kernel
theorem dX5_whatWanted_56 : decode cX5_whatWanted 56 = .ok (.invokevirtual 148, 3) := by decide +kernel
theorem dX5_whatWanted_59 : decode cX5_whatWanted 59 = .ok (.aload_n 0, 1) := by decide +kernel
theorem dX5_whatWanted_60 : decode cX5_whatWanted 60 = .ok (.getfield 13, 3) := by decide +kernel
theorem dX5_whatWanted_63 : decode cX5_whatWanted 63 = .ok (.iload_n 1, 1) := by decide +kernel
theorem dX5_whatWanted_64 : decode cX5_whatWanted 64 = .ok (.iload_n 2, 1) := by decide +kernel
theorem dX5_whatWanted_65 : decode cX5_whatWanted 65 = .ok (.ifCond .ne 7, 3) := by decide +kernel
theorem dX5_whatWanted_68 : decode cX5_whatWanted 68 = .ok (.iconst 2, 1) := by decide +kernel
theorem dX5_whatWanted_69 : decode cX5_whatWanted 69 = .ok (.goto 4, 3) := by decide +kernel
theorem dX5_whatWanted_72 : decode cX5_whatWanted 72 = .ok (.iconst 0, 1) := by decide +kernel
theorem dX5_whatWanted_73 : decode cX5_whatWanted 73 = .ok (.invokestatic 58, 3) := by decide +kernel
theorem dX5_whatWanted_76 : decode cX5_whatWanted 76 = .ok (.iload 4, 2) := by decide +kernel
theorem dX5_whatWanted_78 : decode cX5_whatWanted 78 = .ok (.iastore, 1) := by decide +kernel
theorem dX5_whatWanted_79 : decode cX5_whatWanted 79 = .ok (.iconst 0, 1) := by decide +kernel
theorem dX5_whatWanted_80 : decode cX5_whatWanted 80 = .ok (.istore 6, 2) := by decide +kernel
theorem dX5_whatWanted_82 : decode cX5_whatWanted 82 = .ok (.iload 6, 2) := by decide +kernel
theorem dX5_whatWanted_84 : decode cX5_whatWanted 84 = .ok (.aload_n 0, 1) := by decide +kernel
theorem dX5_whatWanted_85 : decode cX5_whatWanted 85 = .ok (.getfield 200, 3) := by decide +kernel
theorem dX5_whatWanted_88 : decode cX5_whatWanted 88 = .ok (.if_icmp .ge 48, 3) := by decide +kernel
theorem dX5_whatWanted_91 : decode cX5_whatWanted 91 = .ok (.iload 5, 2) := by decide +kernel
theorem dX5_whatWanted_93 : decode cX5_whatWanted 93 = .ok (.aload_n 0, 1) := by decide +kernel
theorem dX5_whatWanted_94 : decode cX5_whatWanted 94 = .ok (.getfield 13, 3) := by decide +kernel
theorem dX5_whatWanted_97 : decode cX5_whatWanted 97 = .ok (.iload_n 1, 1) := by decide +kernel
theorem dX5_whatWanted_98 : decode cX5_whatWanted 98 = .ok (.iconst 4, 1) := by decide +kernel
theorem dX5_whatWanted_99 : decode cX5_whatWanted 99 = .ok (.invokestatic 58, 3) := by decide +kernel
theorem dX5_whatWanted_102 : decode cX5_whatWanted 102 = .ok (.iaload, 1) := by decide +kernel
theorem dX5_whatWanted_103 : decode cX5_whatWanted 103 = .ok (.aload_n 0, 1) := by decide +kernel
theorem dX5_whatWanted_104 : decode cX5_whatWanted 104 = .ok (.getfield 28, 3) := by decide +kernel
theorem dX5_whatWanted_107 : decode cX5_whatWanted 107 = .ok (.iload 6, 2) := by decide +kernel
theorem dX5_whatWanted_109 : decode cX5_whatWanted 109 = .ok (.iaload, 1) := by decide +kernel
theorem dX5_whatWanted_110 : decode cX5_whatWanted 110 = .ok (.if_icmp .ne 7, 3) := by decide +kernel
theorem dX5_whatWanted_113 : decode cX5_whatWanted 113 = .ok (.iconst 1, 1) := by decide +kernel
theorem dX5_whatWanted_114 : decode cX5_whatWanted 114 = .ok (.goto 4, 3) := by decide +kernel
theorem dX5_whatWanted_117 : decode cX5_whatWanted 117 = .ok (.iconst 0, 1) := by decide +kernel
theorem dX5_whatWanted_118 : decode cX5_whatWanted 118 = .ok (.iand, 1) := by decide +kernel
theorem dX5_whatWanted_119 : decode cX5_whatWanted 119 = .ok (.istore 5, 2) := by decide +kernel
theorem dX5_whatWanted_121 : decode cX5_whatWanted 121 = .ok (.aload_n 0, 1) := by decide +kernel
theorem dX5_whatWanted_122 : decode cX5_whatWanted 122 = .ok (.aload_n 0, 1) := by decide +kernel
theorem dX5_whatWanted_123 : decode cX5_whatWanted 123 = .ok (.getfield 13, 3) := by decide +kernel
theorem dX5_whatWanted_126 : decode cX5_whatWanted 126 = .ok (.iconst 0, 1) := by decide +kernel
theorem dX5_whatWanted_127 : decode cX5_whatWanted 127 = .ok (.invokevirtual 76, 3) := by decide +kernel
theorem dX5_whatWanted_130 : decode cX5_whatWanted 130 = .ok (.iinc 6 1, 3) := by decide +kernel
theorem dX5_whatWanted_133 : decode cX5_whatWanted 133 = .ok (.goto (-51), 3) := by decide +kernel
theorem dX5_whatWanted_136 : decode cX5_whatWanted 136 = .ok (.iload_n 3, 1) := by decide +kernel
theorem dX5_whatWanted_137 : decode cX5_whatWanted 137 = .ok (.iload 5, 2) := by decide +kernel
theorem dX5_whatWanted_139 : decode cX5_whatWanted 139 = .ok (.ifCond .eq 10, 3) := by decide +kernel
theorem dX5_whatWanted_142 : decode cX5_whatWanted 142 = .ok (.iconst 1, 1) := by decide +kernel
theorem dX5_whatWanted_143 : decode cX5_whatWanted 143 = .ok (.iload 4, 2) := by decide +kernel
theorem dX5_whatWanted_145 : decode cX5_whatWanted 145 = .ok (.ishl, 1) := by decide +kernel
theorem dX5_whatWanted_146 : decode cX5_whatWanted 146 = .ok (.goto 4, 3) := by decide +kernel
theorem dX5_whatWanted_149 : decode cX5_whatWanted 149 = .ok (.iconst 0, 1) := by decide +kernel
theorem dX5_whatWanted_150 : decode cX5_whatWanted 150 = .ok (.ior, 1) := by decide +kernel
theorem dX5_whatWanted_151 : decode cX5_whatWanted 151 = .ok (.istore_n 3, 1) := by decide +kernel
theorem dX5_whatWanted_152 : decode cX5_whatWanted 152 = .ok (.iinc 4 1, 3) := by decide +kernel
theorem dX5_whatWanted_155 : decode cX5_whatWanted 155 = .ok (.goto (-120), 3) := by decide +kernel
theorem dX5_whatWanted_158 : decode cX5_whatWanted 158 = .ok (.iload_n 3, 1) := by decide +kernel
theorem dX5_whatWanted_159 : decode cX5_whatWanted 159 = .ok (.ireturn, 1) := by decide +kernel
theorem dX5_row_0 : decode cX5_row 0 = .ok (.iload_n 1, 1) := by decide +kernel
theorem dX5_row_1 : decode cX5_row 1 = .ok (.iconst 0, 1) := by decide +kernel
theorem dX5_row_2 : decode cX5_row 2 = .ok (.bipush 99, 2) := by decide +kernel
theorem dX5_row_4 : decode cX5_row 4 = .ok (.invokestatic 138, 3) := by decide +kernel
theorem dX5_row_7 : decode cX5_row 7 = .ok (.istore_n 2, 1) := by decide +kernel
theorem dX5_row_8 : decode cX5_row 8 = .ok (.iload_n 2, 1) := by decide +kernel
theorem dX5_row_9 : decode cX5_row 9 = .ok (.ifCond .ne 15, 3) := by decide +kernel
theorem dX5_row_12 : decode cX5_row 12 = .ok (.aload_n 0, 1) := by decide +kernel
theorem dX5_row_13 : decode cX5_row 13 = .ok (.getfield 200, 3) := by decide +kernel
theorem dX5_row_16 : decode cX5_row 16 = .ok (.bipush 16, 2) := by decide +kernel
theorem dX5_row_18 : decode cX5_row 18 = .ok (.if_icmp .ne 6, 3) := by decide +kernel
theorem dX5_row_21 : decode cX5_row 21 = .ok (.bipush (-6), 2) := by decide +kernel
theorem dX5_row_23 : decode cX5_row 23 = .ok (.istore_n 2, 1) := by decide +kernel
theorem dX5_row_24 : decode cX5_row 24 = .ok (.iload_n 2, 1) := by decide +kernel
theorem dX5_row_25 : decode cX5_row 25 = .ok (.ifCond .eq 9, 3) := by decide +kernel
theorem dX5_row_28 : decode cX5_row 28 = .ok (.aload_n 0, 1) := by decide +kernel
theorem dX5_row_29 : decode cX5_row 29 = .ok (.iload_n 2, 1) := by decide +kernel
theorem dX5_row_30 : decode cX5_row 30 = .ok (.invokevirtual 42, 3) := by decide +kernel
theorem dX5_row_33 : decode cX5_row 33 = .ok (.ireturn, 1) := by decide +kernel
theorem dX5_row_34 : decode cX5_row 34 = .ok (.aload_n 0, 1) := by decide +kernel
theorem dX5_row_35 : decode cX5_row 35 = .ok (.getfield 28, 3) := by decide +kernel
theorem dX5_row_38 : decode cX5_row 38 = .ok (.aload_n 0, 1) := by decide +kernel
theorem dX5_row_39 : decode cX5_row 39 = .ok (.getfield 200, 3) := by decide +kernel
theorem dX5_row_42 : decode cX5_row 42 = .ok (.iload_n 1, 1) := by decide +kernel
theorem dX5_row_43 : decode cX5_row 43 = .ok (.iastore, 1) := by decide +kernel
theorem dX5_row_44 : decode cX5_row 44 = .ok (.aload_n 0, 1) := by decide +kernel
theorem dX5_row_45 : decode cX5_row 45 = .ok (.dup, 1) := by decide +kernel
theorem dX5_row_46 : decode cX5_row 46 = .ok (.getfield 200, 3) := by decide +kernel
theorem dX5_row_49 : decode cX5_row 49 = .ok (.iconst 1, 1) := by decide +kernel
theorem dX5_row_50 : decode cX5_row 50 = .ok (.iadd, 1) := by decide +kernel
theorem dX5_row_51 : decode cX5_row 51 = .ok (.putfield 200, 3) := by decide +kernel
theorem dX5_row_54 : decode cX5_row 54 = .ok (.aload_n 0, 1) := by decide +kernel
theorem dX5_row_55 : decode cX5_row 55 = .ok (.getfield 200, 3) := by decide +kernel
theorem dX5_row_58 : decode cX5_row 58 = .ok (.ireturn, 1) := by decide +kernel
theorem dX5_judge_0 : decode cX5_judge 0 = .ok (.aload_n 0, 1) := by decide +kernel
theorem dX5_judge_1 : decode cX5_judge 1 = .ok (.getfield 200, 3) := by decide +kernel
theorem dX5_judge_4 : decode cX5_judge 4 = .ok (.istore_n 1, 1) := by decide +kernel
theorem dX5_judge_5 : decode cX5_judge 5 = .ok (.aload_n 0, 1) := by decide +kernel
theorem dX5_judge_6 : decode cX5_judge 6 = .ok (.iconst 0, 1) := by decide +kernel
theorem dX5_judge_7 : decode cX5_judge 7 = .ok (.putfield 200, 3) := by decide +kernel
theorem dX5_judge_10 : decode cX5_judge 10 = .ok (.iconst 0, 1) := by decide +kernel
theorem dX5_judge_11 : decode cX5_judge 11 = .ok (.istore_n 2, 1) := by decide +kernel
theorem dX5_judge_12 : decode cX5_judge 12 = .ok (.iload_n 2, 1) := by decide +kernel
theorem dX5_judge_13 : decode cX5_judge 13 = .ok (.iload_n 1, 1) := by decide +kernel
theorem dX5_judge_14 : decode cX5_judge 14 = .ok (.if_icmp .ge 38, 3) := by decide +kernel
theorem dX5_judge_17 : decode cX5_judge 17 = .ok (.aload_n 0, 1) := by decide +kernel
theorem dX5_judge_18 : decode cX5_judge 18 = .ok (.iload_n 2, 1) := by decide +kernel
theorem dX5_judge_19 : decode cX5_judge 19 = .ok (.invokevirtual 118, 3) := by decide +kernel
theorem dX5_judge_22 : decode cX5_judge 22 = .ok (.ifCond .eq 22, 3) := by decide +kernel
theorem dX5_judge_25 : decode cX5_judge 25 = .ok (.aload_n 0, 1) := by decide +kernel
theorem dX5_judge_26 : decode cX5_judge 26 = .ok (.getfield 9, 3) := by decide +kernel
theorem dX5_judge_29 : decode cX5_judge 29 = .ok (.iload_n 2, 1) := by decide +kernel
theorem dX5_judge_30 : decode cX5_judge 30 = .ok (.iconst 4, 1) := by decide +kernel
theorem dX5_judge_31 : decode cX5_judge 31 = .ok (.invokestatic 58, 3) := by decide +kernel
theorem dX5_judge_34 : decode cX5_judge 34 = .ok (.iaload, 1) := by decide +kernel
theorem dX5_judge_35 : decode cX5_judge 35 = .ok (.aload_n 0, 1) := by decide +kernel
theorem dX5_judge_36 : decode cX5_judge 36 = .ok (.getfield 28, 3) := by decide +kernel
theorem dX5_judge_39 : decode cX5_judge 39 = .ok (.iload_n 2, 1) := by decide +kernel
theorem dX5_judge_40 : decode cX5_judge 40 = .ok (.iaload, 1) := by decide +kernel
theorem dX5_judge_41 : decode cX5_judge 41 = .ok (.if_icmp .eq 5, 3) := by decide +kernel
theorem dX5_judge_44 : decode cX5_judge 44 = .ok (.iload_n 2, 1) := by decide +kernel
theorem dX5_judge_45 : decode cX5_judge 45 = .ok (.ireturn, 1) := by decide +kernel
theorem dX5_judge_46 : decode cX5_judge 46 = .ok (.iinc 2 1, 3) := by decide +kernel
theorem dX5_judge_49 : decode cX5_judge 49 = .ok (.goto (-37), 3) := by decide +kernel
theorem dX5_judge_52 : decode cX5_judge 52 = .ok (.bipush (-9), 2) := by decide +kernel
theorem dX5_judge_54 : decode cX5_judge 54 = .ok (.ireturn, 1) := by decide +kernel
theorem dX5_clear_0 : decode cX5_clear 0 = .ok (.aload_n 0, 1) := by decide +kernel
theorem dX5_clear_1 : decode cX5_clear 1 = .ok (.getfield 200, 3) := by decide +kernel
theorem dX5_clear_4 : decode cX5_clear 4 = .ok (.istore_n 1, 1) := by decide +kernel
theorem dX5_clear_5 : decode cX5_clear 5 = .ok (.aload_n 0, 1) := by decide +kernel
theorem dX5_clear_6 : decode cX5_clear 6 = .ok (.iconst 0, 1) := by decide +kernel
theorem dX5_clear_7 : decode cX5_clear 7 = .ok (.putfield 200, 3) := by decide +kernel
theorem dX5_clear_10 : decode cX5_clear 10 = .ok (.iload_n 1, 1) := by decide +kernel
theorem dX5_clear_11 : decode cX5_clear 11 = .ok (.ireturn, 1) := by decide +kernel
theorem dX5_drawn_0 : decode cX5_drawn 0 = .ok (.aload_n 0, 1) := by decide +kernel
theorem dX5_drawn_1 : decode cX5_drawn 1 = .ok (.aload_n 0, 1) := by decide +kernel
theorem dX5_drawn_2 : decode cX5_drawn 2 = .ok (.getfield 203, 3) := by decide +kernel
theorem dX5_drawn_5 : decode cX5_drawn 5 = .ok (.ldc 206, 2) := by decide +kernel
theorem dX5_drawn_7 : decode cX5_drawn 7 = .ok (.imul, 1) := by decide +kernel
theorem dX5_drawn_8 : decode cX5_drawn 8 = .ok (.ldc 207, 2) := by decide +kernel
theorem dX5_drawn_10 : decode cX5_drawn 10 = .ok (.iadd, 1) := by decide +kernel
theorem dX5_drawn_11 : decode cX5_drawn 11 = .ok (.putfield 203, 3) := by decide +kernel
theorem dX5_drawn_14 : decode cX5_drawn 14 = .ok (.aload_n 0, 1) := by decide +kernel
theorem dX5_drawn_15 : decode cX5_drawn 15 = .ok (.getfield 203, 3) := by decide +kernel
theorem dX5_drawn_18 : decode cX5_drawn 18 = .ok (.ldc 208, 2) := by decide +kernel
theorem dX5_drawn_20 : decode cX5_drawn 20 = .ok (.iand, 1) := by decide +kernel
theorem dX5_drawn_21 : decode cX5_drawn 21 = .ok (.sipush 256, 3) := by decide +kernel
theorem dX5_drawn_24 : decode cX5_drawn 24 = .ok (.idiv, 1) := by decide +kernel
theorem dX5_drawn_25 : decode cX5_drawn 25 = .ok (.iload_n 1, 1) := by decide +kernel
theorem dX5_drawn_26 : decode cX5_drawn 26 = .ok (.irem, 1) := by decide +kernel
theorem dX5_drawn_27 : decode cX5_drawn 27 = .ok (.ireturn, 1) := by decide +kernel
theorem dX5_lots_0 : decode cX5_lots 0 = .ok (.iload_n 1, 1) := by decide +kernel
theorem dX5_lots_1 : decode cX5_lots 1 = .ok (.iconst 1, 1) := by decide +kernel
theorem dX5_lots_2 : decode cX5_lots 2 = .ok (.if_icmp .ge 10, 3) := by decide +kernel
theorem dX5_lots_5 : decode cX5_lots 5 = .ok (.aload_n 0, 1) := by decide +kernel
theorem dX5_lots_6 : decode cX5_lots 6 = .ok (.bipush (-4), 2) := by decide +kernel
theorem dX5_lots_8 : decode cX5_lots 8 = .ok (.invokevirtual 42, 3) := by decide +kernel
theorem dX5_lots_11 : decode cX5_lots 11 = .ok (.ireturn, 1) := by decide +kernel
theorem dX5_lots_12 : decode cX5_lots 12 = .ok (.iload_n 1, 1) := by decide +kernel
theorem dX5_lots_13 : decode cX5_lots 13 = .ok (.bipush 20, 2) := by decide +kernel
theorem dX5_lots_15 : decode cX5_lots 15 = .ok (.if_icmp .le 10, 3) := by decide +kernel
theorem dX5_lots_18 : decode cX5_lots 18 = .ok (.aload_n 0, 1) := by decide +kernel
theorem dX5_lots_19 : decode cX5_lots 19 = .ok (.bipush (-6), 2) := by decide +kernel
theorem dX5_lots_21 : decode cX5_lots 21 = .ok (.invokevirtual 42, 3) := by decide +kernel
theorem dX5_lots_24 : decode cX5_lots 24 = .ok (.ireturn, 1) := by decide +kernel
theorem dX5_lots_25 : decode cX5_lots 25 = .ok (.iload_n 3, 1) := by decide +kernel
theorem dX5_lots_26 : decode cX5_lots 26 = .ok (.iconst 0, 1) := by decide +kernel
theorem dX5_lots_27 : decode cX5_lots 27 = .ok (.iconst 1, 1) := by decide +kernel
theorem dX5_lots_28 : decode cX5_lots 28 = .ok (.invokestatic 46, 3) := by decide +kernel
theorem dX5_lots_31 : decode cX5_lots 31 = .ok (.ifCond .ne 10, 3) := by decide +kernel
theorem dX5_lots_34 : decode cX5_lots 34 = .ok (.aload_n 0, 1) := by decide +kernel
theorem dX5_lots_35 : decode cX5_lots 35 = .ok (.bipush (-2), 2) := by decide +kernel
theorem dX5_lots_37 : decode cX5_lots 37 = .ok (.invokevirtual 42, 3) := by decide +kernel
theorem dX5_lots_40 : decode cX5_lots 40 = .ok (.ireturn, 1) := by decide +kernel
theorem dX5_lots_41 : decode cX5_lots 41 = .ok (.aload_n 0, 1) := by decide +kernel
theorem dX5_lots_42 : decode cX5_lots 42 = .ok (.iload_n 2, 1) := by decide +kernel
theorem dX5_lots_43 : decode cX5_lots 43 = .ok (.putfield 203, 3) := by decide +kernel
theorem dX5_lots_46 : decode cX5_lots 46 = .ok (.iconst 0, 1) := by decide +kernel
theorem dX5_lots_47 : decode cX5_lots 47 = .ok (.istore 4, 2) := by decide +kernel
theorem dX5_lots_49 : decode cX5_lots 49 = .ok (.iconst 0, 1) := by decide +kernel
theorem dX5_lots_50 : decode cX5_lots 50 = .ok (.istore 5, 2) := by decide +kernel
theorem dX5_lots_52 : decode cX5_lots 52 = .ok (.iload 5, 2) := by decide +kernel
theorem dX5_lots_54 : decode cX5_lots 54 = .ok (.iload_n 1, 1) := by decide +kernel
theorem dX5_lots_55 : decode cX5_lots 55 = .ok (.if_icmp .ge 109, 3) := by decide +kernel
theorem dX5_lots_58 : decode cX5_lots 58 = .ok (.aload_n 0, 1) := by decide +kernel
theorem dX5_lots_59 : decode cX5_lots 59 = .ok (.getfield 9, 3) := by decide +kernel
theorem dX5_lots_62 : decode cX5_lots 62 = .ok (.aload_n 0, 1) := by decide +kernel
theorem dX5_lots_63 : decode cX5_lots 63 = .ok (.getfield 13, 3) := by decide +kernel
theorem dX5_lots_66 : decode cX5_lots 66 = .ok (.invokestatic 127, 3) := by decide +kernel
theorem dX5_lots_69 : decode cX5_lots 69 = .ok (.iconst 0, 1) := by decide +kernel
theorem dX5_lots_70 : decode cX5_lots 70 = .ok (.istore 6, 2) := by decide +kernel
theorem dX5_lots_72 : decode cX5_lots 72 = .ok (.iload 6, 2) := by decide +kernel
theorem dX5_lots_74 : decode cX5_lots 74 = .ok (.aload_n 0, 1) := by decide +kernel
theorem dX5_lots_75 : decode cX5_lots 75 = .ok (.getfield 9, 3) := by decide +kernel
theorem dX5_lots_78 : decode cX5_lots 78 = .ok (.iconst 0, 1) := by decide +kernel
theorem dX5_lots_79 : decode cX5_lots 79 = .ok (.iaload, 1) := by decide +kernel
theorem dX5_lots_80 : decode cX5_lots 80 = .ok (.if_icmp .ge 42, 3) := by decide +kernel
theorem dX5_lots_83 : decode cX5_lots 83 = .ok (.aload_n 0, 1) := by decide +kernel
theorem dX5_lots_84 : decode cX5_lots 84 = .ok (.getfield 13, 3) := by decide +kernel
theorem dX5_lots_87 : decode cX5_lots 87 = .ok (.iload 6, 2) := by decide +kernel
theorem dX5_lots_89 : decode cX5_lots 89 = .ok (.iconst 4, 1) := by decide +kernel
theorem dX5_lots_90 : decode cX5_lots 90 = .ok (.invokestatic 58, 3) := by decide +kernel
theorem dX5_lots_93 : decode cX5_lots 93 = .ok (.aload_n 0, 1) := by decide +kernel
theorem dX5_lots_94 : decode cX5_lots 94 = .ok (.bipush 8, 2) := by decide +kernel
theorem dX5_lots_96 : decode cX5_lots 96 = .ok (.invokevirtual 209, 3) := by decide +kernel
theorem dX5_lots_99 : decode cX5_lots 99 = .ok (.iastore, 1) := by decide +kernel
theorem dX5_lots_100 : decode cX5_lots 100 = .ok (.aload_n 0, 1) := by decide +kernel
theorem dX5_lots_101 : decode cX5_lots 101 = .ok (.getfield 13, 3) := by decide +kernel
theorem dX5_lots_104 : decode cX5_lots 104 = .ok (.iload 6, 2) := by decide +kernel
theorem dX5_lots_106 : decode cX5_lots 106 = .ok (.iconst 5, 1) := by decide +kernel
theorem dX5_lots_107 : decode cX5_lots 107 = .ok (.invokestatic 58, 3) := by decide +kernel
theorem dX5_lots_110 : decode cX5_lots 110 = .ok (.aload_n 0, 1) := by decide +kernel
theorem dX5_lots_111 : decode cX5_lots 111 = .ok (.iconst 5, 1) := by decide +kernel
theorem dX5_lots_112 : decode cX5_lots 112 = .ok (.invokevirtual 209, 3) := by decide +kernel
theorem dX5_lots_115 : decode cX5_lots 115 = .ok (.iastore, 1) := by decide +kernel
theorem dX5_lots_116 : decode cX5_lots 116 = .ok (.iinc 6 1, 3) := by decide +kernel
theorem dX5_lots_119 : decode cX5_lots 119 = .ok (.goto (-47), 3) := by decide +kernel
theorem dX5_lots_122 : decode cX5_lots 122 = .ok (.aload_n 0, 1) := by decide +kernel
theorem dX5_lots_123 : decode cX5_lots 123 = .ok (.aload_n 0, 1) := by decide +kernel
theorem dX5_lots_124 : decode cX5_lots 124 = .ok (.getfield 13, 3) := by decide +kernel
theorem dX5_lots_127 : decode cX5_lots 127 = .ok (.bipush 10, 2) := by decide +kernel
theorem dX5_lots_129 : decode cX5_lots 129 = .ok (.invokevirtual 121, 3) := by decide +kernel
theorem dX5_lots_132 : decode cX5_lots 132 = .ok (.iload 4, 2) := by decide +kernel
theorem dX5_lots_134 : decode cX5_lots 134 = .ok (.iload_n 3, 1) := by decide +kernel
theorem dX5_lots_135 : decode cX5_lots 135 = .ok (.ifCond .ne 10, 3) := by decide +kernel
theorem dX5_lots_138 : decode cX5_lots 138 = .ok (.aload_n 0, 1) := by decide +kernel
theorem dX5_lots_139 : decode cX5_lots 139 = .ok (.invokevirtual 178, 3) := by decide +kernel
theorem dX5_lots_142 : decode cX5_lots 142 = .ok (.goto 13, 3) := by decide +kernel
theorem dX5_lots_145 : decode cX5_lots 145 = .ok (.aload_n 0, 1) := by decide +kernel
theorem dX5_lots_146 : decode cX5_lots 146 = .ok (.getfield 13, 3) := by decide +kernel
theorem dX5_lots_149 : decode cX5_lots 149 = .ok (.invokestatic 141, 3) := by decide +kernel
theorem dX5_lots_152 : decode cX5_lots 152 = .ok (.invokestatic 145, 3) := by decide +kernel
theorem dX5_lots_155 : decode cX5_lots 155 = .ok (.iadd, 1) := by decide +kernel
theorem dX5_lots_156 : decode cX5_lots 156 = .ok (.istore 4, 2) := by decide +kernel
theorem dX5_lots_158 : decode cX5_lots 158 = .ok (.iinc 5 1, 3) := by decide +kernel
theorem dX5_lots_161 : decode cX5_lots 161 = .ok (.goto (-109), 3) := by decide +kernel
theorem dX5_lots_164 : decode cX5_lots 164 = .ok (.iload 4, 2) := by decide +kernel
theorem dX5_lots_166 : decode cX5_lots 166 = .ok (.ireturn, 1) := by decide +kernel
theorem dX5_image_0 : decode cX5_image 0 = .ok (.aload_n 0, 1) := by decide +kernel
theorem dX5_image_1 : decode cX5_image 1 = .ok (.getfield 9, 3) := by decide +kernel
theorem dX5_image_4 : decode cX5_image 4 = .ok (.aload_n 0, 1) := by decide +kernel
theorem dX5_image_5 : decode cX5_image 5 = .ok (.getfield 16, 3) := by decide +kernel
theorem dX5_image_8 : decode cX5_image 8 = .ok (.invokestatic 127, 3) := by decide +kernel
theorem dX5_image_11 : decode cX5_image 11 = .ok (.aload_n 0, 1) := by decide +kernel
theorem dX5_image_12 : decode cX5_image 12 = .ok (.iconst 1, 1) := by decide +kernel
theorem dX5_image_13 : decode cX5_image 13 = .ok (.putfield 212, 3) := by decide +kernel
theorem dX5_image_16 : decode cX5_image 16 = .ok (.aload_n 0, 1) := by decide +kernel
theorem dX5_image_17 : decode cX5_image 17 = .ok (.getfield 9, 3) := by decide +kernel
theorem dX5_image_20 : decode cX5_image 20 = .ok (.iconst 1, 1) := by decide +kernel
theorem dX5_image_21 : decode cX5_image 21 = .ok (.iaload, 1) := by decide +kernel
theorem dX5_image_22 : decode cX5_image 22 = .ok (.ireturn, 1) := by decide +kernel
theorem dX5_on_0 : decode cX5_on 0 = .ok (.aload_n 0, 1) := by decide +kernel
theorem dX5_on_1 : decode cX5_on 1 = .ok (.getfield 212, 3) := by decide +kernel
theorem dX5_on_4 : decode cX5_on 4 = .ok (.ifCond .ne 10, 3) := by decide +kernel
theorem dX5_on_7 : decode cX5_on 7 = .ok (.aload_n 0, 1) := by decide +kernel
theorem dX5_on_8 : decode cX5_on 8 = .ok (.bipush (-3), 2) := by decide +kernel
theorem dX5_on_10 : decode cX5_on 10 = .ok (.invokevirtual 42, 3) := by decide +kernel
theorem dX5_on_13 : decode cX5_on 13 = .ok (.ireturn, 1) := by decide +kernel
theorem dX5_on_14 : decode cX5_on 14 = .ok (.aload_n 0, 1) := by decide +kernel
theorem dX5_on_15 : decode cX5_on 15 = .ok (.getfield 16, 3) := by decide +kernel
theorem dX5_on_18 : decode cX5_on 18 = .ok (.aload_n 0, 1) := by decide +kernel
theorem dX5_on_19 : decode cX5_on 19 = .ok (.getfield 9, 3) := by decide +kernel
theorem dX5_on_22 : decode cX5_on 22 = .ok (.invokestatic 127, 3) := by decide +kernel
theorem dX5_on_25 : decode cX5_on 25 = .ok (.aload_n 0, 1) := by decide +kernel
theorem dX5_on_26 : decode cX5_on 26 = .ok (.getfield 9, 3) := by decide +kernel
theorem dX5_on_29 : decode cX5_on 29 = .ok (.iconst 1, 1) := by decide +kernel
theorem dX5_on_30 : decode cX5_on 30 = .ok (.iaload, 1) := by decide +kernel
theorem dX5_on_31 : decode cX5_on 31 = .ok (.ireturn, 1) := by decide +kernel
theorem dX5_count_0 : decode cX5_count 0 = .ok (.iload_n 1, 1) := by decide +kernel
theorem dX5_count_1 : decode cX5_count 1 = .ok (.bipush 11, 2) := by decide +kernel
theorem dX5_count_3 : decode cX5_count 3 = .ok (.bipush 16, 2) := by decide +kernel
theorem dX5_count_5 : decode cX5_count 5 = .ok (.invokestatic 46, 3) := by decide +kernel
theorem dX5_count_8 : decode cX5_count 8 = .ok (.ifCond .eq 13, 3) := by decide +kernel
theorem dX5_count_11 : decode cX5_count 11 = .ok (.aload_n 0, 1) := by decide +kernel
theorem dX5_count_12 : decode cX5_count 12 = .ok (.getfield 31, 3) := by decide +kernel
theorem dX5_count_15 : decode cX5_count 15 = .ok (.iload_n 1, 1) := by decide +kernel
theorem dX5_count_16 : decode cX5_count 16 = .ok (.bipush 10, 2) := by decide +kernel
theorem dX5_count_18 : decode cX5_count 18 = .ok (.isub, 1) := by decide +kernel
theorem dX5_count_19 : decode cX5_count 19 = .ok (.iaload, 1) := by decide +kernel
theorem dX5_count_20 : decode cX5_count 20 = .ok (.ireturn, 1) := by decide +kernel
theorem dX5_count_21 : decode cX5_count 21 = .ok (.iconst 0, 1) := by decide +kernel
theorem dX5_count_22 : decode cX5_count 22 = .ok (.istore_n 2, 1) := by decide +kernel
theorem dX5_count_23 : decode cX5_count 23 = .ok (.iload_n 1, 1) := by decide +kernel
theorem dX5_count_24 : decode cX5_count 24 = .ok (.tableswitch 118 0 7 #[48, 48, 55, 87, 95, 101, 108, 113], 48) := by decide +kernel
theorem dX5_count_72 : decode cX5_count 72 = .ok (.aload_n 0, 1) := by decide +kernel
theorem dX5_count_73 : decode cX5_count 73 = .ok (.getfield 9, 3) := by decide +kernel
theorem dX5_count_76 : decode cX5_count 76 = .ok (.iload_n 1, 1) := by decide +kernel
theorem dX5_count_77 : decode cX5_count 77 = .ok (.iaload, 1) := by decide +kernel
theorem dX5_count_78 : decode cX5_count 78 = .ok (.ireturn, 1) := by decide +kernel
theorem dX5_count_79 : decode cX5_count 79 = .ok (.iconst 0, 1) := by decide +kernel
theorem dX5_count_80 : decode cX5_count 80 = .ok (.istore_n 3, 1) := by decide +kernel
theorem dX5_count_81 : decode cX5_count 81 = .ok (.iload_n 3, 1) := by decide +kernel
theorem dX5_count_82 : decode cX5_count 82 = .ok (.bipush 8, 2) := by decide +kernel
theorem dX5_count_84 : decode cX5_count 84 = .ok (.if_icmp .ge 23, 3) := by decide +kernel
theorem dX5_count_87 : decode cX5_count 87 = .ok (.iload_n 2, 1) := by decide +kernel
theorem dX5_count_88 : decode cX5_count 88 = .ok (.aload_n 0, 1) := by decide +kernel
theorem dX5_count_89 : decode cX5_count 89 = .ok (.getfield 9, 3) := by decide +kernel
theorem dX5_count_92 : decode cX5_count 92 = .ok (.iconst 2, 1) := by decide +kernel
theorem dX5_count_93 : decode cX5_count 93 = .ok (.iload_n 3, 1) := by decide +kernel
theorem dX5_count_94 : decode cX5_count 94 = .ok (.iadd, 1) := by decide +kernel
theorem dX5_count_95 : decode cX5_count 95 = .ok (.iaload, 1) := by decide +kernel
theorem dX5_count_96 : decode cX5_count 96 = .ok (.invokestatic 145, 3) := by decide +kernel
theorem dX5_count_99 : decode cX5_count 99 = .ok (.iadd, 1) := by decide +kernel
theorem dX5_count_100 : decode cX5_count 100 = .ok (.istore_n 2, 1) := by decide +kernel
theorem dX5_count_101 : decode cX5_count 101 = .ok (.iinc 3 1, 3) := by decide +kernel
theorem dX5_count_104 : decode cX5_count 104 = .ok (.goto (-23), 3) := by decide +kernel
theorem dX5_count_107 : decode cX5_count 107 = .ok (.iload_n 2, 1) := by decide +kernel
theorem dX5_count_108 : decode cX5_count 108 = .ok (.iconst 2, 1) := by decide +kernel
theorem dX5_count_109 : decode cX5_count 109 = .ok (.idiv, 1) := by decide +kernel
theorem dX5_count_110 : decode cX5_count 110 = .ok (.ireturn, 1) := by decide +kernel
theorem dX5_count_111 : decode cX5_count 111 = .ok (.aload_n 0, 1) := by decide +kernel
theorem dX5_count_112 : decode cX5_count 112 = .ok (.getfield 9, 3) := by decide +kernel
theorem dX5_count_115 : decode cX5_count 115 = .ok (.invokestatic 141, 3) := by decide +kernel
theorem dX5_count_118 : decode cX5_count 118 = .ok (.ireturn, 1) := by decide +kernel
theorem dX5_count_119 : decode cX5_count 119 = .ok (.aload_n 0, 1) := by decide +kernel
theorem dX5_count_120 : decode cX5_count 120 = .ok (.iconst 5, 1) := by decide +kernel
theorem dX5_count_121 : decode cX5_count 121 = .ok (.invokevirtual 197, 3) := by decide +kernel
theorem dX5_count_124 : decode cX5_count 124 = .ok (.ireturn, 1) := by decide +kernel
theorem dX5_count_125 : decode cX5_count 125 = .ok (.aload_n 0, 1) := by decide +kernel
theorem dX5_count_126 : decode cX5_count 126 = .ok (.bipush 6, 2) := by decide +kernel
theorem dX5_count_128 : decode cX5_count 128 = .ok (.invokevirtual 197, 3) := by decide +kernel
theorem dX5_count_131 : decode cX5_count 131 = .ok (.ireturn, 1) := by decide +kernel
theorem dX5_count_132 : decode cX5_count 132 = .ok (.aload_n 0, 1) := by decide +kernel
theorem dX5_count_133 : decode cX5_count 133 = .ok (.getfield 200, 3) := by decide +kernel
theorem dX5_count_136 : decode cX5_count 136 = .ok (.ireturn, 1) := by decide +kernel
theorem dX5_count_137 : decode cX5_count 137 = .ok (.aload_n 0, 1) := by decide +kernel
theorem dX5_count_138 : decode cX5_count 138 = .ok (.getfield 83, 3) := by decide +kernel
theorem dX5_count_141 : decode cX5_count 141 = .ok (.ireturn, 1) := by decide +kernel
theorem dX5_count_142 : decode cX5_count 142 = .ok (.bipush (-9), 2) := by decide +kernel
theorem dX5_count_144 : decode cX5_count 144 = .ok (.ireturn, 1) := by decide +kernel
