theorem dX0_init_0 : decode cX0_init 0 = .ok (.aload_n 0, 1) := by decide +kernel
theorem dX0_init_1 : decode cX0_init 1 = .ok (.invokespecial 1, 3) := by decide +kernel
theorem dX0_init_4 : decode cX0_init 4 = .ok (.return_, 1) := by decide +kernel
theorem dX0_least_0 : decode cX0_least 0 = .ok (.bipush 28, 2) := by decide +kernel
theorem dX0_least_2 : decode cX0_least 2 = .ok (.ireturn, 1) := by decide +kernel
theorem dX0_most_0 : decode cX0_most 0 = .ok (.aload_n 0, 1) := by decide +kernel
theorem dX0_most_1 : decode cX0_most 1 = .ok (.invokespecial 7, 3) := by decide +kernel
theorem dX0_most_4 : decode cX0_most 4 = .ok (.bipush 26, 2) := by decide +kernel
theorem dX0_most_6 : decode cX0_most 6 = .ok (.isub, 1) := by decide +kernel
theorem dX0_most_7 : decode cX0_most 7 = .ok (.ireturn, 1) := by decide +kernel
theorem dX1_init_0 : decode cX1_init 0 = .ok (.aload_n 0, 1) := by decide +kernel
theorem dX1_init_1 : decode cX1_init 1 = .ok (.invokespecial 1, 3) := by decide +kernel
theorem dX1_init_4 : decode cX1_init 4 = .ok (.return_, 1) := by decide +kernel
theorem dX1_soundOf_0 : decode cX1_soundOf 0 = .ok (.aload_n 0, 1) := by decide +kernel
theorem dX1_soundOf_1 : decode cX1_soundOf 1 = .ok (.dup, 1) := by decide +kernel
theorem dX1_soundOf_2 : decode cX1_soundOf 2 = .ok (.getfield 7, 3) := by decide +kernel
theorem dX1_soundOf_5 : decode cX1_soundOf 5 = .ok (.ldc2_w 13, 3) := by decide +kernel
theorem dX1_soundOf_8 : decode cX1_soundOf 8 = .ok (.ladd, 1) := by decide +kernel
theorem dX1_soundOf_9 : decode cX1_soundOf 9 = .ok (.putfield 7, 3) := by decide +kernel
theorem dX1_soundOf_12 : decode cX1_soundOf 12 = .ok (.bipush 35, 2) := by decide +kernel
theorem dX1_soundOf_14 : decode cX1_soundOf 14 = .ok (.ireturn, 1) := by decide +kernel
theorem dX2_init_0 : decode cX2_init 0 = .ok (.aload_n 0, 1) := by decide +kernel
theorem dX2_init_1 : decode cX2_init 1 = .ok (.invokespecial 3, 3) := by decide +kernel
theorem dX2_init_4 : decode cX2_init 4 = .ok (.aload_n 0, 1) := by decide +kernel
theorem dX2_init_5 : decode cX2_init 5 = .ok (.iconst 0, 1) := by decide +kernel
theorem dX2_init_6 : decode cX2_init 6 = .ok (.putfield 9, 3) := by decide +kernel
theorem dX2_init_9 : decode cX2_init 9 = .ok (.aload_n 0, 1) := by decide +kernel
theorem dX2_init_10 : decode cX2_init 10 = .ok (.iconst 0, 1) := by decide +kernel
theorem dX2_init_11 : decode cX2_init 11 = .ok (.putfield 15, 3) := by decide +kernel
theorem dX2_init_14 : decode cX2_init 14 = .ok (.aload_n 0, 1) := by decide +kernel
theorem dX2_init_15 : decode cX2_init 15 = .ok (.iconst 0, 1) := by decide +kernel
theorem dX2_init_16 : decode cX2_init 16 = .ok (.putfield 19, 3) := by decide +kernel
theorem dX2_init_19 : decode cX2_init 19 = .ok (.aload_n 0, 1) := by decide +kernel
theorem dX2_init_20 : decode cX2_init 20 = .ok (.lconst 0, 1) := by decide +kernel
theorem dX2_init_21 : decode cX2_init 21 = .ok (.putfield 22, 3) := by decide +kernel
theorem dX2_init_24 : decode cX2_init 24 = .ok (.aload_n 0, 1) := by decide +kernel
theorem dX2_init_25 : decode cX2_init 25 = .ok (.lconst 0, 1) := by decide +kernel
theorem dX2_init_26 : decode cX2_init 26 = .ok (.putfield 26, 3) := by decide +kernel
theorem dX2_init_29 : decode cX2_init 29 = .ok (.aload_n 0, 1) := by decide +kernel
theorem dX2_init_30 : decode cX2_init 30 = .ok (.iload_n 1, 1) := by decide +kernel
theorem dX2_init_31 : decode cX2_init 31 = .ok (.putfield 29, 3) := by decide +kernel
theorem dX2_init_34 : decode cX2_init 34 = .ok (.aload_n 0, 1) := by decide +kernel
theorem dX2_init_35 : decode cX2_init 35 = .ok (.aload_n 2, 1) := by decide +kernel
theorem dX2_init_36 : decode cX2_init 36 = .ok (.putfield 32, 3) := by decide +kernel
theorem dX2_init_39 : decode cX2_init 39 = .ok (.aload_n 0, 1) := by decide +kernel
theorem dX2_init_40 : decode cX2_init 40 = .ok (.iload_n 3, 1) := by decide +kernel
theorem dX2_init_41 : decode cX2_init 41 = .ok (.putfield 36, 3) := by decide +kernel
theorem dX2_init_44 : decode cX2_init 44 = .ok (.aload_n 0, 1) := by decide +kernel
theorem dX2_init_45 : decode cX2_init 45 = .ok (.iload 5, 2) := by decide +kernel
theorem dX2_init_47 : decode cX2_init 47 = .ok (.putfield 39, 3) := by decide +kernel
theorem dX2_init_50 : decode cX2_init 50 = .ok (.aload_n 0, 1) := by decide +kernel
theorem dX2_init_51 : decode cX2_init 51 = .ok (.iload 6, 2) := by decide +kernel
theorem dX2_init_53 : decode cX2_init 53 = .ok (.putfield 42, 3) := by decide +kernel
theorem dX2_init_56 : decode cX2_init 56 = .ok (.aload_n 0, 1) := by decide +kernel
theorem dX2_init_57 : decode cX2_init 57 = .ok (.iload_n 3, 1) := by decide +kernel
theorem dX2_init_58 : decode cX2_init 58 = .ok (.iconst 1, 1) := by decide +kernel
theorem dX2_init_59 : decode cX2_init 59 = .ok (.if_icmp .ne 8, 3) := by decide +kernel
theorem dX2_init_62 : decode cX2_init 62 = .ok (.bipush 6, 2) := by decide +kernel
theorem dX2_init_64 : decode cX2_init 64 = .ok (.goto 4, 3) := by decide +kernel
theorem dX2_init_67 : decode cX2_init 67 = .ok (.iconst 1, 1) := by decide +kernel
theorem dX2_init_68 : decode cX2_init 68 = .ok (.newarray .int, 2) := by decide +kernel
theorem dX2_init_70 : decode cX2_init 70 = .ok (.putfield 45, 3) := by decide +kernel
theorem dX2_init_73 : decode cX2_init 73 = .ok (.iload_n 3, 1) := by decide +kernel
theorem dX2_init_74 : decode cX2_init 74 = .ok (.invokestatic 49, 3) := by decide +kernel
theorem dX2_init_77 : decode cX2_init 77 = .ok (.ifCond .eq 16, 3) := by decide +kernel
theorem dX2_init_80 : decode cX2_init 80 = .ok (.aload_n 0, 1) := by decide +kernel
theorem dX2_init_81 : decode cX2_init 81 = .ok (.getfield 45, 3) := by decide +kernel
theorem dX2_init_84 : decode cX2_init 84 = .ok (.iconst 0, 1) := by decide +kernel
theorem dX2_init_85 : decode cX2_init 85 = .ok (.iload 4, 2) := by decide +kernel
theorem dX2_init_87 : decode cX2_init 87 = .ok (.iastore, 1) := by decide +kernel
theorem dX2_init_88 : decode cX2_init 88 = .ok (.aload_n 0, 1) := by decide +kernel
theorem dX2_init_89 : decode cX2_init 89 = .ok (.iconst 1, 1) := by decide +kernel
theorem dX2_init_90 : decode cX2_init 90 = .ok (.putfield 9, 3) := by decide +kernel
theorem dX2_init_93 : decode cX2_init 93 = .ok (.return_, 1) := by decide +kernel
theorem dX2_isNote_0 : decode cX2_isNote 0 = .ok (.aload_n 0, 1) := by decide +kernel
theorem dX2_isNote_1 : decode cX2_isNote 1 = .ok (.getfield 36, 3) := by decide +kernel
theorem dX2_isNote_4 : decode cX2_isNote 4 = .ok (.invokestatic 49, 3) := by decide +kernel
theorem dX2_isNote_7 : decode cX2_isNote 7 = .ok (.ireturn, 1) := by decide +kernel
theorem dX2_isWithoutTime_0 : decode cX2_isWithoutTime 0 = .ok (.aload_n 0, 1) := by decide +kernel
theorem dX2_isWithoutTime_1 : decode cX2_isWithoutTime 1 = .ok (.getfield 36, 3) := by decide +kernel
theorem dX2_isWithoutTime_4 : decode cX2_isWithoutTime 4 = .ok (.iconst 2, 1) := by decide +kernel
theorem dX2_isWithoutTime_5 : decode cX2_isWithoutTime 5 = .ok (.if_icmp .eq 11, 3) := by decide +kernel
theorem dX2_isWithoutTime_8 : decode cX2_isWithoutTime 8 = .ok (.aload_n 0, 1) := by decide +kernel
theorem dX2_isWithoutTime_9 : decode cX2_isWithoutTime 9 = .ok (.getfield 36, 3) := by decide +kernel
theorem dX2_isWithoutTime_12 : decode cX2_isWithoutTime 12 = .ok (.iconst 4, 1) := by decide +kernel
theorem dX2_isWithoutTime_13 : decode cX2_isWithoutTime 13 = .ok (.if_icmp .ne 7, 3) := by decide +kernel
theorem dX2_isWithoutTime_16 : decode cX2_isWithoutTime 16 = .ok (.iconst 1, 1) := by decide +kernel
theorem dX2_isWithoutTime_17 : decode cX2_isWithoutTime 17 = .ok (.goto 4, 3) := by decide +kernel
theorem dX2_isWithoutTime_20 : decode cX2_isWithoutTime 20 = .ok (.iconst 0, 1) := by decide +kernel
theorem dX2_isWithoutTime_21 : decode cX2_isWithoutTime 21 = .ok (.ireturn, 1) := by decide +kernel
theorem dX2_writtenTime_0 : decode cX2_writtenTime 0 = .ok (.aload_n 0, 1) := by decide +kernel
theorem dX2_writtenTime_1 : decode cX2_writtenTime 1 = .ok (.invokevirtual 53, 3) := by decide +kernel
theorem dX2_writtenTime_4 : decode cX2_writtenTime 4 = .ok (.ifCond .eq 5, 3) := by decide +kernel
theorem dX2_writtenTime_7 : decode cX2_writtenTime 7 = .ok (.lconst 0, 1) := by decide +kernel
theorem dX2_writtenTime_8 : decode cX2_writtenTime 8 = .ok (.lreturn, 1) := by decide +kernel
theorem dX2_writtenTime_9 : decode cX2_writtenTime 9 = .ok (.ldc2_w 57, 3) := by decide +kernel
theorem dX2_writtenTime_12 : decode cX2_writtenTime 12 = .ok (.aload_n 0, 1) := by decide +kernel
theorem dX2_writtenTime_13 : decode cX2_writtenTime 13 = .ok (.getfield 39, 3) := by decide +kernel
theorem dX2_writtenTime_16 : decode cX2_writtenTime 16 = .ok (.lshr, 1) := by decide +kernel
theorem dX2_writtenTime_17 : decode cX2_writtenTime 17 = .ok (.lstore_n 1, 1) := by decide +kernel
theorem dX2_writtenTime_18 : decode cX2_writtenTime 18 = .ok (.aload_n 0, 1) := by decide +kernel
theorem dX2_writtenTime_19 : decode cX2_writtenTime 19 = .ok (.getfield 42, 3) := by decide +kernel
theorem dX2_writtenTime_22 : decode cX2_writtenTime 22 = .ok (.lookupswitch 42 #[(1, 26), (2, 32)], 26) := by decide +kernel
theorem dX2_writtenTime_48 : decode cX2_writtenTime 48 = .ok (.lload_n 1, 1) := by decide +kernel
theorem dX2_writtenTime_49 : decode cX2_writtenTime 49 = .ok (.lload_n 1, 1) := by decide +kernel
theorem dX2_writtenTime_50 : decode cX2_writtenTime 50 = .ok (.iconst 1, 1) := by decide +kernel
theorem dX2_writtenTime_51 : decode cX2_writtenTime 51 = .ok (.lshr, 1) := by decide +kernel
theorem dX2_writtenTime_52 : decode cX2_writtenTime 52 = .ok (.ladd, 1) := by decide +kernel
theorem dX2_writtenTime_53 : decode cX2_writtenTime 53 = .ok (.lreturn, 1) := by decide +kernel
theorem dX2_writtenTime_54 : decode cX2_writtenTime 54 = .ok (.lload_n 1, 1) := by decide +kernel
theorem dX2_writtenTime_55 : decode cX2_writtenTime 55 = .ok (.lload_n 1, 1) := by decide +kernel
theorem dX2_writtenTime_56 : decode cX2_writtenTime 56 = .ok (.iconst 1, 1) := by decide +kernel
theorem dX2_writtenTime_57 : decode cX2_writtenTime 57 = .ok (.lshr, 1) := by decide +kernel
theorem dX2_writtenTime_58 : decode cX2_writtenTime 58 = .ok (.ladd, 1) := by decide +kernel
theorem dX2_writtenTime_59 : decode cX2_writtenTime 59 = .ok (.lload_n 1, 1) := by decide +kernel
theorem dX2_writtenTime_60 : decode cX2_writtenTime 60 = .ok (.iconst 2, 1) := by decide +kernel
theorem dX2_writtenTime_61 : decode cX2_writtenTime 61 = .ok (.lshr, 1) := by decide +kernel
theorem dX2_writtenTime_62 : decode cX2_writtenTime 62 = .ok (.ladd, 1) := by decide +kernel
theorem dX2_writtenTime_63 : decode cX2_writtenTime 63 = .ok (.lreturn, 1) := by decide +kernel
theorem dX2_writtenTime_64 : decode cX2_writtenTime 64 = .ok (.lload_n 1, 1) := by decide +kernel
theorem dX2_writtenTime_65 : decode cX2_writtenTime 65 = .ok (.lreturn, 1) := by decide +kernel
theorem dX2_hasPitchAt_0 : decode cX2_hasPitchAt 0 = .ok (.iload_n 1, 1) := by decide +kernel
theorem dX2_hasPitchAt_1 : decode cX2_hasPitchAt 1 = .ok (.ifCond .lt 15, 3) := by decide +kernel
theorem dX2_hasPitchAt_4 : decode cX2_hasPitchAt 4 = .ok (.iload_n 1, 1) := by decide +kernel
theorem dX2_hasPitchAt_5 : decode cX2_hasPitchAt 5 = .ok (.aload_n 0, 1) := by decide +kernel
theorem dX2_hasPitchAt_6 : decode cX2_hasPitchAt 6 = .ok (.getfield 9, 3) := by decide +kernel
theorem dX2_hasPitchAt_9 : decode cX2_hasPitchAt 9 = .ok (.if_icmp .ge 7, 3) := by decide +kernel
theorem dX2_hasPitchAt_12 : decode cX2_hasPitchAt 12 = .ok (.iconst 1, 1) := by decide +kernel
theorem dX2_hasPitchAt_13 : decode cX2_hasPitchAt 13 = .ok (.goto 4, 3) := by decide +kernel
theorem dX2_hasPitchAt_16 : decode cX2_hasPitchAt 16 = .ok (.iconst 0, 1) := by decide +kernel
theorem dX2_hasPitchAt_17 : decode cX2_hasPitchAt 17 = .ok (.ireturn, 1) := by decide +kernel
theorem dX2_lowest_0 : decode cX2_lowest 0 = .ok (.aload_n 0, 1) := by decide +kernel
theorem dX2_lowest_1 : decode cX2_lowest 1 = .ok (.getfield 9, 3) := by decide +kernel
theorem dX2_lowest_4 : decode cX2_lowest 4 = .ok (.ifCond .le 12, 3) := by decide +kernel
theorem dX2_lowest_7 : decode cX2_lowest 7 = .ok (.aload_n 0, 1) := by decide +kernel
theorem dX2_lowest_8 : decode cX2_lowest 8 = .ok (.getfield 45, 3) := by decide +kernel
theorem dX2_lowest_11 : decode cX2_lowest 11 = .ok (.iconst 0, 1) := by decide +kernel
theorem dX2_lowest_12 : decode cX2_lowest 12 = .ok (.iaload, 1) := by decide +kernel
theorem dX2_lowest_13 : decode cX2_lowest 13 = .ok (.goto 4, 3) := by decide +kernel
theorem dX2_lowest_16 : decode cX2_lowest 16 = .ok (.iconst (-1), 1) := by decide +kernel
theorem dX2_lowest_17 : decode cX2_lowest 17 = .ok (.ireturn, 1) := by decide +kernel
theorem dX2_highest_0 : decode cX2_highest 0 = .ok (.aload_n 0, 1) := by decide +kernel
theorem dX2_highest_1 : decode cX2_highest 1 = .ok (.getfield 9, 3) := by decide +kernel
theorem dX2_highest_4 : decode cX2_highest 4 = .ok (.ifCond .le 17, 3) := by decide +kernel
theorem dX2_highest_7 : decode cX2_highest 7 = .ok (.aload_n 0, 1) := by decide +kernel
theorem dX2_highest_8 : decode cX2_highest 8 = .ok (.getfield 45, 3) := by decide +kernel
theorem dX2_highest_11 : decode cX2_highest 11 = .ok (.aload_n 0, 1) := by decide +kernel
theorem dX2_highest_12 : decode cX2_highest 12 = .ok (.getfield 9, 3) := by decide +kernel
theorem dX2_highest_15 : decode cX2_highest 15 = .ok (.iconst 1, 1) := by decide +kernel
theorem dX2_highest_16 : decode cX2_highest 16 = .ok (.isub, 1) := by decide +kernel
theorem dX2_highest_17 : decode cX2_highest 17 = .ok (.iaload, 1) := by decide +kernel
theorem dX2_highest_18 : decode cX2_highest 18 = .ok (.goto 4, 3) := by decide +kernel
theorem dX2_highest_21 : decode cX2_highest 21 = .ok (.iconst (-1), 1) := by decide +kernel
theorem dX2_highest_22 : decode cX2_highest 22 = .ok (.ireturn, 1) := by decide +kernel
theorem dX2_addPitch_0 : decode cX2_addPitch 0 = .ok (.aload_n 0, 1) := by decide +kernel
theorem dX2_addPitch_1 : decode cX2_addPitch 1 = .ok (.getfield 9, 3) := by decide +kernel
theorem dX2_addPitch_4 : decode cX2_addPitch 4 = .ok (.aload_n 0, 1) := by decide +kernel
theorem dX2_addPitch_5 : decode cX2_addPitch 5 = .ok (.getfield 45, 3) := by decide +kernel
theorem dX2_addPitch_8 : decode cX2_addPitch 8 = .ok (.arraylength, 1) := by decide +kernel
theorem dX2_addPitch_9 : decode cX2_addPitch 9 = .ok (.if_icmp .lt 5, 3) := by decide +kernel
theorem dX2_addPitch_12 : decode cX2_addPitch 12 = .ok (.iconst 0, 1) := by decide +kernel
theorem dX2_addPitch_13 : decode cX2_addPitch 13 = .ok (.ireturn, 1) := by decide +kernel
theorem dX2_addPitch_14 : decode cX2_addPitch 14 = .ok (.aload_n 0, 1) := by decide +kernel
theorem dX2_addPitch_15 : decode cX2_addPitch 15 = .ok (.getfield 45, 3) := by decide +kernel
theorem dX2_addPitch_18 : decode cX2_addPitch 18 = .ok (.aload_n 0, 1) := by decide +kernel
theorem dX2_addPitch_19 : decode cX2_addPitch 19 = .ok (.getfield 9, 3) := by decide +kernel
theorem dX2_addPitch_22 : decode cX2_addPitch 22 = .ok (.iload_n 1, 1) := by decide +kernel
theorem dX2_addPitch_23 : decode cX2_addPitch 23 = .ok (.iastore, 1) := by decide +kernel
theorem dX2_addPitch_24 : decode cX2_addPitch 24 = .ok (.aload_n 0, 1) := by decide +kernel
theorem dX2_addPitch_25 : decode cX2_addPitch 25 = .ok (.dup, 1) := by decide +kernel
theorem dX2_addPitch_26 : decode cX2_addPitch 26 = .ok (.getfield 9, 3) := by decide +kernel
theorem dX2_addPitch_29 : decode cX2_addPitch 29 = .ok (.iconst 1, 1) := by decide +kernel
theorem dX2_addPitch_30 : decode cX2_addPitch 30 = .ok (.iadd, 1) := by decide +kernel
theorem dX2_addPitch_31 : decode cX2_addPitch 31 = .ok (.putfield 9, 3) := by decide +kernel
theorem dX2_addPitch_34 : decode cX2_addPitch 34 = .ok (.iconst 1, 1) := by decide +kernel
theorem dX2_addPitch_35 : decode cX2_addPitch 35 = .ok (.ireturn, 1) := by decide +kernel
theorem dX2_moveBy_0 : decode cX2_moveBy 0 = .ok (.aload_n 0, 1) := by decide +kernel
theorem dX2_moveBy_1 : decode cX2_moveBy 1 = .ok (.invokevirtual 59, 3) := by decide +kernel
theorem dX2_moveBy_4 : decode cX2_moveBy 4 = .ok (.i2l, 1) := by decide +kernel
theorem dX2_moveBy_5 : decode cX2_moveBy 5 = .ok (.lload_n 1, 1) := by decide +kernel
theorem dX2_moveBy_6 : decode cX2_moveBy 6 = .ok (.ladd, 1) := by decide +kernel
theorem dX2_moveBy_7 : decode cX2_moveBy 7 = .ok (.invokestatic 63, 3) := by decide +kernel
theorem dX2_moveBy_10 : decode cX2_moveBy 10 = .ok (.ifCond .eq 16, 3) := by decide +kernel
theorem dX2_moveBy_13 : decode cX2_moveBy 13 = .ok (.aload_n 0, 1) := by decide +kernel
theorem dX2_moveBy_14 : decode cX2_moveBy 14 = .ok (.invokevirtual 67, 3) := by decide +kernel
theorem dX2_moveBy_17 : decode cX2_moveBy 17 = .ok (.i2l, 1) := by decide +kernel
theorem dX2_moveBy_18 : decode cX2_moveBy 18 = .ok (.lload_n 1, 1) := by decide +kernel
theorem dX2_moveBy_19 : decode cX2_moveBy 19 = .ok (.ladd, 1) := by decide +kernel
theorem dX2_moveBy_20 : decode cX2_moveBy 20 = .ok (.invokestatic 63, 3) := by decide +kernel
theorem dX2_moveBy_23 : decode cX2_moveBy 23 = .ok (.ifCond .ne 5, 3) := by decide +kernel
theorem dX2_moveBy_26 : decode cX2_moveBy 26 = .ok (.iconst 0, 1) := by decide +kernel
theorem dX2_moveBy_27 : decode cX2_moveBy 27 = .ok (.ireturn, 1) := by decide +kernel
theorem dX2_moveBy_28 : decode cX2_moveBy 28 = .ok (.iconst 0, 1) := by decide +kernel
theorem dX2_moveBy_29 : decode cX2_moveBy 29 = .ok (.istore_n 3, 1) := by decide +kernel
theorem dX2_moveBy_30 : decode cX2_moveBy 30 = .ok (.iload_n 3, 1) := by decide +kernel
theorem dX2_moveBy_31 : decode cX2_moveBy 31 = .ok (.aload_n 0, 1) := by decide +kernel
theorem dX2_moveBy_32 : decode cX2_moveBy 32 = .ok (.getfield 9, 3) := by decide +kernel
theorem dX2_moveBy_35 : decode cX2_moveBy 35 = .ok (.if_icmp .ge 25, 3) := by decide +kernel
theorem dX2_moveBy_38 : decode cX2_moveBy 38 = .ok (.aload_n 0, 1) := by decide +kernel
theorem dX2_moveBy_39 : decode cX2_moveBy 39 = .ok (.getfield 45, 3) := by decide +kernel
theorem dX2_moveBy_42 : decode cX2_moveBy 42 = .ok (.iload_n 3, 1) := by decide +kernel
theorem dX2_moveBy_43 : decode cX2_moveBy 43 = .ok (.aload_n 0, 1) := by decide +kernel
theorem dX2_moveBy_44 : decode cX2_moveBy 44 = .ok (.getfield 45, 3) := by decide +kernel
theorem dX2_moveBy_47 : decode cX2_moveBy 47 = .ok (.iload_n 3, 1) := by decide +kernel
theorem dX2_moveBy_48 : decode cX2_moveBy 48 = .ok (.iaload, 1) := by decide +kernel
theorem dX2_moveBy_49 : decode cX2_moveBy 49 = .ok (.i2l, 1) := by decide +kernel
theorem dX2_moveBy_50 : decode cX2_moveBy 50 = .ok (.lload_n 1, 1) := by decide +kernel
theorem dX2_moveBy_51 : decode cX2_moveBy 51 = .ok (.ladd, 1) := by decide +kernel
theorem dX2_moveBy_52 : decode cX2_moveBy 52 = .ok (.l2i, 1) := by decide +kernel
theorem dX2_moveBy_53 : decode cX2_moveBy 53 = .ok (.iastore, 1) := by decide +kernel
theorem dX2_moveBy_54 : decode cX2_moveBy 54 = .ok (.iinc 3 1, 3) := by decide +kernel
theorem dX2_moveBy_57 : decode cX2_moveBy 57 = .ok (.goto (-27), 3) := by decide +kernel
theorem dX2_moveBy_60 : decode cX2_moveBy 60 = .ok (.iconst 1, 1) := by decide +kernel
theorem dX2_moveBy_61 : decode cX2_moveBy 61 = .ok (.ireturn, 1) := by decide +kernel
theorem dX2_hasPitch_0 : decode cX2_hasPitch 0 = .ok (.iconst 0, 1) := by decide +kernel
theorem dX2_hasPitch_1 : decode cX2_hasPitch 1 = .ok (.istore_n 2, 1) := by decide +kernel
theorem dX2_hasPitch_2 : decode cX2_hasPitch 2 = .ok (.iload_n 2, 1) := by decide +kernel
theorem dX2_hasPitch_3 : decode cX2_hasPitch 3 = .ok (.aload_n 0, 1) := by decide +kernel
theorem dX2_hasPitch_4 : decode cX2_hasPitch 4 = .ok (.getfield 9, 3) := by decide +kernel
theorem dX2_hasPitch_7 : decode cX2_hasPitch 7 = .ok (.if_icmp .ge 21, 3) := by decide +kernel
theorem dX2_hasPitch_10 : decode cX2_hasPitch 10 = .ok (.aload_n 0, 1) := by decide +kernel
theorem dX2_hasPitch_11 : decode cX2_hasPitch 11 = .ok (.getfield 45, 3) := by decide +kernel
theorem dX2_hasPitch_14 : decode cX2_hasPitch 14 = .ok (.iload_n 2, 1) := by decide +kernel
theorem dX2_hasPitch_15 : decode cX2_hasPitch 15 = .ok (.iaload, 1) := by decide +kernel
theorem dX2_hasPitch_16 : decode cX2_hasPitch 16 = .ok (.iload_n 1, 1) := by decide +kernel
theorem dX2_hasPitch_17 : decode cX2_hasPitch 17 = .ok (.if_icmp .ne 5, 3) := by decide +kernel
theorem dX2_hasPitch_20 : decode cX2_hasPitch 20 = .ok (.iconst 1, 1) := by decide +kernel
theorem dX2_hasPitch_21 : decode cX2_hasPitch 21 = .ok (.ireturn, 1) := by decide +kernel
theorem dX2_hasPitch_22 : decode cX2_hasPitch 22 = .ok (.iinc 2 1, 3) := by decide +kernel
theorem dX2_hasPitch_25 : decode cX2_hasPitch 25 = .ok (.goto (-23), 3) := by decide +kernel
theorem dX2_hasPitch_28 : decode cX2_hasPitch 28 = .ok (.iconst 0, 1) := by decide +kernel
theorem dX2_hasPitch_29 : decode cX2_hasPitch 29 = .ok (.ireturn, 1) := by decide +kernel
theorem dX2_hasAllPitchesOf_0 : decode cX2_hasAllPitchesOf 0 = .ok (.iconst 0, 1) := by decide +kernel
theorem dX2_hasAllPitchesOf_1 : decode cX2_hasAllPitchesOf 1 = .ok (.istore_n 2, 1) := by decide +kernel
theorem dX2_hasAllPitchesOf_2 : decode cX2_hasAllPitchesOf 2 = .ok (.iload_n 2, 1) := by decide +kernel
theorem dX2_hasAllPitchesOf_3 : decode cX2_hasAllPitchesOf 3 = .ok (.aload_n 1, 1) := by decide +kernel
theorem dX2_hasAllPitchesOf_4 : decode cX2_hasAllPitchesOf 4 = .ok (.getfield 9, 3) := by decide +kernel
theorem dX2_hasAllPitchesOf_7 : decode cX2_hasAllPitchesOf 7 = .ok (.if_icmp .ge 24, 3) := by decide +kernel
theorem dX2_hasAllPitchesOf_10 : decode cX2_hasAllPitchesOf 10 = .ok (.aload_n 0, 1) := by decide +kernel
theorem dX2_hasAllPitchesOf_11 : decode cX2_hasAllPitchesOf 11 = .ok (.aload_n 1, 1) := by decide +kernel
theorem dX2_hasAllPitchesOf_12 : decode cX2_hasAllPitchesOf 12 = .ok (.getfield 45, 3) := by decide +kernel
theorem dX2_hasAllPitchesOf_15 : decode cX2_hasAllPitchesOf 15 = .ok (.iload_n 2, 1) := by decide +kernel
theorem dX2_hasAllPitchesOf_16 : decode cX2_hasAllPitchesOf 16 = .ok (.iaload, 1) := by decide +kernel
theorem dX2_hasAllPitchesOf_17 : decode cX2_hasAllPitchesOf 17 = .ok (.invokevirtual 70, 3) := by decide +kernel
theorem dX2_hasAllPitchesOf_20 : decode cX2_hasAllPitchesOf 20 = .ok (.ifCond .ne 5, 3) := by decide +kernel
theorem dX2_hasAllPitchesOf_23 : decode cX2_hasAllPitchesOf 23 = .ok (.iconst 0, 1) := by decide +kernel
theorem dX2_hasAllPitchesOf_24 : decode cX2_hasAllPitchesOf 24 = .ok (.ireturn, 1) := by decide +kernel
theorem dX2_hasAllPitchesOf_25 : decode cX2_hasAllPitchesOf 25 = .ok (.iinc 2 1, 3) := by decide +kernel
theorem dX2_hasAllPitchesOf_28 : decode cX2_hasAllPitchesOf 28 = .ok (.goto (-26), 3) := by decide +kernel
theorem dX2_hasAllPitchesOf_31 : decode cX2_hasAllPitchesOf 31 = .ok (.iconst 1, 1) := by decide +kernel
theorem dX2_hasAllPitchesOf_32 : decode cX2_hasAllPitchesOf 32 = .ok (.ireturn, 1) := by decide +kernel
theorem dX2_looksLike_0 : decode cX2_looksLike 0 = .ok (.aload_n 0, 1) := by decide +kernel
theorem dX2_looksLike_1 : decode cX2_looksLike 1 = .ok (.getfield 36, 3) := by decide +kernel
theorem dX2_looksLike_4 : decode cX2_looksLike 4 = .ok (.aload_n 1, 1) := by decide +kernel
theorem dX2_looksLike_5 : decode cX2_looksLike 5 = .ok (.getfield 36, 3) := by decide +kernel
theorem dX2_looksLike_8 : decode cX2_looksLike 8 = .ok (.if_icmp .ne 59, 3) := by decide +kernel
theorem dX2_looksLike_11 : decode cX2_looksLike 11 = .ok (.aload_n 0, 1) := by decide +kernel
theorem dX2_looksLike_12 : decode cX2_looksLike 12 = .ok (.getfield 39, 3) := by decide +kernel
theorem dX2_looksLike_15 : decode cX2_looksLike 15 = .ok (.aload_n 1, 1) := by decide +kernel
theorem dX2_looksLike_16 : decode cX2_looksLike 16 = .ok (.getfield 39, 3) := by decide +kernel
theorem dX2_looksLike_19 : decode cX2_looksLike 19 = .ok (.if_icmp .ne 48, 3) := by decide +kernel
theorem dX2_looksLike_22 : decode cX2_looksLike 22 = .ok (.aload_n 0, 1) := by decide +kernel
theorem dX2_looksLike_23 : decode cX2_looksLike 23 = .ok (.getfield 42, 3) := by decide +kernel
theorem dX2_looksLike_26 : decode cX2_looksLike 26 = .ok (.aload_n 1, 1) := by decide +kernel
theorem dX2_looksLike_27 : decode cX2_looksLike 27 = .ok (.getfield 42, 3) := by decide +kernel
theorem dX2_looksLike_30 : decode cX2_looksLike 30 = .ok (.if_icmp .ne 37, 3) := by decide +kernel
theorem dX2_looksLike_33 : decode cX2_looksLike 33 = .ok (.aload_n 0, 1) := by decide +kernel
theorem dX2_looksLike_34 : decode cX2_looksLike 34 = .ok (.getfield 15, 3) := by decide +kernel
theorem dX2_looksLike_37 : decode cX2_looksLike 37 = .ok (.aload_n 1, 1) := by decide +kernel
theorem dX2_looksLike_38 : decode cX2_looksLike 38 = .ok (.getfield 15, 3) := by decide +kernel
theorem dX2_looksLike_41 : decode cX2_looksLike 41 = .ok (.if_icmp .ne 26, 3) := by decide +kernel
theorem dX2_looksLike_44 : decode cX2_looksLike 44 = .ok (.aload_n 0, 1) := by decide +kernel
theorem dX2_looksLike_45 : decode cX2_looksLike 45 = .ok (.getfield 9, 3) := by decide +kernel
theorem dX2_looksLike_48 : decode cX2_looksLike 48 = .ok (.aload_n 1, 1) := by decide +kernel
theorem dX2_looksLike_49 : decode cX2_looksLike 49 = .ok (.getfield 9, 3) := by decide +kernel
theorem dX2_looksLike_52 : decode cX2_looksLike 52 = .ok (.if_icmp .ne 15, 3) := by decide +kernel
theorem dX2_looksLike_55 : decode cX2_looksLike 55 = .ok (.aload_n 0, 1) := by decide +kernel
theorem dX2_looksLike_56 : decode cX2_looksLike 56 = .ok (.aload_n 1, 1) := by decide +kernel
theorem dX2_looksLike_57 : decode cX2_looksLike 57 = .ok (.invokevirtual 73, 3) := by decide +kernel
theorem dX2_looksLike_60 : decode cX2_looksLike 60 = .ok (.ifCond .eq 7, 3) := by decide +kernel
theorem dX2_looksLike_63 : decode cX2_looksLike 63 = .ok (.iconst 1, 1) := by decide +kernel
theorem dX2_looksLike_64 : decode cX2_looksLike 64 = .ok (.goto 4, 3) := by decide +kernel
theorem dX2_looksLike_67 : decode cX2_looksLike 67 = .ok (.iconst 0, 1) := by decide +kernel
theorem dX2_looksLike_68 : decode cX2_looksLike 68 = .ok (.ireturn, 1) := by decide +kernel
theorem dX3_init_0 : decode cX3_init 0 = .ok (.aload_n 0, 1) := by decide +kernel
theorem dX3_init_1 : decode cX3_init 1 = .ok (.invokespecial 1, 3) := by decide +kernel
theorem dX3_init_4 : decode cX3_init 4 = .ok (.return_, 1) := by decide +kernel
theorem dX3_soundOf_0 : decode cX3_soundOf 0 = .ok (.aload_n 0, 1) := by decide +kernel
theorem dX3_soundOf_1 : decode cX3_soundOf 1 = .ok (.dup, 1) := by decide +kernel
theorem dX3_soundOf_2 : decode cX3_soundOf 2 = .ok (.getfield 7, 3) := by decide +kernel
theorem dX3_soundOf_5 : decode cX3_soundOf 5 = .ok (.ldc2_w 13, 3) := by decide +kernel
theorem dX3_soundOf_8 : decode cX3_soundOf 8 = .ok (.ladd, 1) := by decide +kernel
theorem dX3_soundOf_9 : decode cX3_soundOf 9 = .ok (.putfield 7, 3) := by decide +kernel
theorem dX3_soundOf_12 : decode cX3_soundOf 12 = .ok (.aload_n 0, 1) := by decide +kernel
theorem dX3_soundOf_13 : decode cX3_soundOf 13 = .ok (.iload_n 1, 1) := by decide +kernel
theorem dX3_soundOf_14 : decode cX3_soundOf 14 = .ok (.invokespecial 15, 3) := by decide +kernel
theorem dX3_soundOf_17 : decode cX3_soundOf 17 = .ok (.bipush 7, 2) := by decide +kernel
theorem dX3_soundOf_19 : decode cX3_soundOf 19 = .ok (.isub, 1) := by decide +kernel
theorem dX3_soundOf_20 : decode cX3_soundOf 20 = .ok (.ireturn, 1) := by decide +kernel
theorem dX4_init_0 : decode cX4_init 0 = .ok (.aload_n 0, 1) := by decide +kernel
theorem dX4_init_1 : decode cX4_init 1 = .ok (.invokespecial 3, 3) := by decide +kernel
theorem dX4_init_4 : decode cX4_init 4 = .ok (.aload_n 0, 1) := by decide +kernel
theorem dX4_init_5 : decode cX4_init 5 = .ok (.iload_n 1, 1) := by decide +kernel
theorem dX4_init_6 : decode cX4_init 6 = .ok (.putfield 9, 3) := by decide +kernel
theorem dX4_init_9 : decode cX4_init 9 = .ok (.aload_n 0, 1) := by decide +kernel
theorem dX4_init_10 : decode cX4_init 10 = .ok (.aload_n 2, 1) := by decide +kernel
theorem dX4_init_11 : decode cX4_init 11 = .ok (.putfield 15, 3) := by decide +kernel
theorem dX4_init_14 : decode cX4_init 14 = .ok (.aload_n 0, 1) := by decide +kernel
theorem dX4_init_15 : decode cX4_init 15 = .ok (.aload_n 3, 1) := by decide +kernel
theorem dX4_init_16 : decode cX4_init 16 = .ok (.putfield 19, 3) := by decide +kernel
theorem dX4_init_19 : decode cX4_init 19 = .ok (.return_, 1) := by decide +kernel
theorem dX4_raises_0 : decode cX4_raises 0 = .ok (.aload_n 0, 1) := by decide +kernel
theorem dX4_raises_1 : decode cX4_raises 1 = .ok (.getfield 9, 3) := by decide +kernel
theorem dX4_raises_4 : decode cX4_raises 4 = .ok (.iconst 2, 1) := by decide +kernel
theorem dX4_raises_5 : decode cX4_raises 5 = .ok (.if_icmp .ne 70, 3) := by decide +kernel
theorem dX4_raises_8 : decode cX4_raises 8 = .ok (.aload_n 0, 1) := by decide +kernel
theorem dX4_raises_9 : decode cX4_raises 9 = .ok (.getfield 19, 3) := by decide +kernel
theorem dX4_raises_12 : decode cX4_raises 12 = .ok (.ifnull 63, 3) := by decide +kernel
theorem dX4_raises_15 : decode cX4_raises 15 = .ok (.aload_n 0, 1) := by decide +kernel
theorem dX4_raises_16 : decode cX4_raises 16 = .ok (.getfield 15, 3) := by decide +kernel
theorem dX4_raises_19 : decode cX4_raises 19 = .ok (.getfield 22, 3) := by decide +kernel
theorem dX4_raises_22 : decode cX4_raises 22 = .ok (.aload_n 1, 1) := by decide +kernel
theorem dX4_raises_23 : decode cX4_raises 23 = .ok (.getfield 22, 3) := by decide +kernel
theorem dX4_raises_26 : decode cX4_raises 26 = .ok (.if_acmp .ne 49, 3) := by decide +kernel
theorem dX4_raises_29 : decode cX4_raises 29 = .ok (.aload_n 0, 1) := by decide +kernel
theorem dX4_raises_30 : decode cX4_raises 30 = .ok (.getfield 19, 3) := by decide +kernel
theorem dX4_raises_33 : decode cX4_raises 33 = .ok (.getfield 22, 3) := by decide +kernel
theorem dX4_raises_36 : decode cX4_raises 36 = .ok (.aload_n 1, 1) := by decide +kernel
theorem dX4_raises_37 : decode cX4_raises 37 = .ok (.getfield 22, 3) := by decide +kernel
theorem dX4_raises_40 : decode cX4_raises 40 = .ok (.if_acmp .ne 35, 3) := by decide +kernel
theorem dX4_raises_43 : decode cX4_raises 43 = .ok (.aload_n 0, 1) := by decide +kernel
theorem dX4_raises_44 : decode cX4_raises 44 = .ok (.getfield 15, 3) := by decide +kernel
theorem dX4_raises_47 : decode cX4_raises 47 = .ok (.getfield 28, 3) := by decide +kernel
theorem dX4_raises_50 : decode cX4_raises 50 = .ok (.aload_n 1, 1) := by decide +kernel
theorem dX4_raises_51 : decode cX4_raises 51 = .ok (.getfield 28, 3) := by decide +kernel
theorem dX4_raises_54 : decode cX4_raises 54 = .ok (.if_icmp .gt 21, 3) := by decide +kernel
theorem dX4_raises_57 : decode cX4_raises 57 = .ok (.aload_n 1, 1) := by decide +kernel
theorem dX4_raises_58 : decode cX4_raises 58 = .ok (.getfield 28, 3) := by decide +kernel
theorem dX4_raises_61 : decode cX4_raises 61 = .ok (.aload_n 0, 1) := by decide +kernel
theorem dX4_raises_62 : decode cX4_raises 62 = .ok (.getfield 19, 3) := by decide +kernel
theorem dX4_raises_65 : decode cX4_raises 65 = .ok (.getfield 28, 3) := by decide +kernel
theorem dX4_raises_68 : decode cX4_raises 68 = .ok (.if_icmp .gt 7, 3) := by decide +kernel
theorem dX4_raises_71 : decode cX4_raises 71 = .ok (.iconst 1, 1) := by decide +kernel
theorem dX4_raises_72 : decode cX4_raises 72 = .ok (.goto 4, 3) := by decide +kernel
theorem dX4_raises_75 : decode cX4_raises 75 = .ok (.iconst 0, 1) := by decide +kernel
theorem dX4_raises_76 : decode cX4_raises 76 = .ok (.ireturn, 1) := by decide +kernel
theorem dX5_init_0 : decode cX5_init 0 = .ok (.aload_n 0, 1) := by decide +kernel
theorem dX5_init_1 : decode cX5_init 1 = .ok (.invokespecial 1, 3) := by decide +kernel
theorem dX5_init_4 : decode cX5_init 4 = .ok (.return_, 1) := by decide +kernel
theorem dX5_soundOf_0 : decode cX5_soundOf 0 = .ok (.aload_n 0, 1) := by decide +kernel
theorem dX5_soundOf_1 : decode cX5_soundOf 1 = .ok (.dup, 1) := by decide +kernel
theorem dX5_soundOf_2 : decode cX5_soundOf 2 = .ok (.getfield 7, 3) := by decide +kernel
theorem dX5_soundOf_5 : decode cX5_soundOf 5 = .ok (.ldc2_w 13, 3) := by decide +kernel
theorem dX5_soundOf_8 : decode cX5_soundOf 8 = .ok (.ladd, 1) := by decide +kernel
theorem dX5_soundOf_9 : decode cX5_soundOf 9 = .ok (.putfield 7, 3) := by decide +kernel
theorem dX5_soundOf_12 : decode cX5_soundOf 12 = .ok (.aload_n 0, 1) := by decide +kernel
theorem dX5_soundOf_13 : decode cX5_soundOf 13 = .ok (.iload_n 1, 1) := by decide +kernel
theorem dX5_soundOf_14 : decode cX5_soundOf 14 = .ok (.invokespecial 15, 3) := by decide +kernel
theorem dX5_soundOf_17 : decode cX5_soundOf 17 = .ok (.bipush 12, 2) := by decide +kernel
theorem dX5_soundOf_19 : decode cX5_soundOf 19 = .ok (.isub, 1) := by decide +kernel
theorem dX5_soundOf_20 : decode cX5_soundOf 20 = .ok (.ireturn, 1) := by decide +kernel
theorem dX6_init_0 : decode cX6_init 0 = .ok (.aload_n 0, 1) := by decide +kernel
theorem dX6_init_1 : decode cX6_init 1 = .ok (.invokespecial 1, 3) := by decide +kernel
theorem dX6_init_4 : decode cX6_init 4 = .ok (.return_, 1) := by decide +kernel
theorem dX6_soundOf_0 : decode cX6_soundOf 0 = .ok (.aload_n 0, 1) := by decide +kernel
theorem dX6_soundOf_1 : decode cX6_soundOf 1 = .ok (.dup, 1) := by decide +kernel
theorem dX6_soundOf_2 : decode cX6_soundOf 2 = .ok (.getfield 7, 3) := by decide +kernel
theorem dX6_soundOf_5 : decode cX6_soundOf 5 = .ok (.ldc2_w 13, 3) := by decide +kernel
theorem dX6_soundOf_8 : decode cX6_soundOf 8 = .ok (.ladd, 1) := by decide +kernel
theorem dX6_soundOf_9 : decode cX6_soundOf 9 = .ok (.putfield 7, 3) := by decide +kernel
theorem dX6_soundOf_12 : decode cX6_soundOf 12 = .ok (.aload_n 0, 1) := by decide +kernel
theorem dX6_soundOf_13 : decode cX6_soundOf 13 = .ok (.iload_n 1, 1) := by decide +kernel
theorem dX6_soundOf_14 : decode cX6_soundOf 14 = .ok (.invokespecial 15, 3) := by decide +kernel
theorem dX6_soundOf_17 : decode cX6_soundOf 17 = .ok (.bipush 12, 2) := by decide +kernel
theorem dX6_soundOf_19 : decode cX6_soundOf 19 = .ok (.isub, 1) := by decide +kernel
theorem dX6_soundOf_20 : decode cX6_soundOf 20 = .ok (.ireturn, 1) := by decide +kernel
theorem dX6_least_0 : decode cX6_least 0 = .ok (.aload_n 0, 1) := by decide +kernel
theorem dX6_least_1 : decode cX6_least 1 = .ok (.dup, 1) := by decide +kernel
theorem dX6_least_2 : decode cX6_least 2 = .ok (.getfield 7, 3) := by decide +kernel
theorem dX6_least_5 : decode cX6_least 5 = .ok (.ldc2_w 19, 3) := by decide +kernel
theorem dX6_least_8 : decode cX6_least 8 = .ok (.ladd, 1) := by decide +kernel
theorem dX6_least_9 : decode cX6_least 9 = .ok (.putfield 7, 3) := by decide +kernel
theorem dX6_least_12 : decode cX6_least 12 = .ok (.aload_n 0, 1) := by decide +kernel
theorem dX6_least_13 : decode cX6_least 13 = .ok (.invokespecial 21, 3) := by decide +kernel
theorem dX6_least_16 : decode cX6_least 16 = .ok (.iconst 5, 1) := by decide +kernel
theorem dX6_least_17 : decode cX6_least 17 = .ok (.isub, 1) := by decide +kernel
theorem dX6_least_18 : decode cX6_least 18 = .ok (.ireturn, 1) := by decide +kernel
theorem dX7_init_0 : decode cX7_init 0 = .ok (.aload_n 0, 1) := by decide +kernel
theorem dX7_init_1 : decode cX7_init 1 = .ok (.invokespecial 1, 3) := by decide +kernel
theorem dX7_init_4 : decode cX7_init 4 = .ok (.aload_n 0, 1) := by decide +kernel
theorem dX7_init_5 : decode cX7_init 5 = .ok (.lconst 0, 1) := by decide +kernel
theorem dX7_init_6 : decode cX7_init 6 = .ok (.putfield 7, 3) := by decide +kernel
theorem dX7_init_9 : decode cX7_init 9 = .ok (.return_, 1) := by decide +kernel
theorem dX7_soundOf_0 : decode cX7_soundOf 0 = .ok (.aload_n 0, 1) := by decide +kernel
theorem dX7_soundOf_1 : decode cX7_soundOf 1 = .ok (.dup, 1) := by decide +kernel
theorem dX7_soundOf_2 : decode cX7_soundOf 2 = .ok (.getfield 7, 3) := by decide +kernel
theorem dX7_soundOf_5 : decode cX7_soundOf 5 = .ok (.lconst 1, 1) := by decide +kernel
theorem dX7_soundOf_6 : decode cX7_soundOf 6 = .ok (.ladd, 1) := by decide +kernel
theorem dX7_soundOf_7 : decode cX7_soundOf 7 = .ok (.putfield 7, 3) := by decide +kernel
theorem dX7_soundOf_10 : decode cX7_soundOf 10 = .ok (.iload_n 1, 1) := by decide +kernel
theorem dX7_soundOf_11 : decode cX7_soundOf 11 = .ok (.ireturn, 1) := by decide +kernel
theorem dX7_least_0 : decode cX7_least 0 = .ok (.bipush 21, 2) := by decide +kernel
theorem dX7_least_2 : decode cX7_least 2 = .ok (.ireturn, 1) := by decide +kernel
theorem dX7_most_0 : decode cX7_most 0 = .ok (.bipush 108, 2) := by decide +kernel
theorem dX7_most_2 : decode cX7_most 2 = .ok (.ireturn, 1) := by decide +kernel
theorem dX8_init_0 : decode cX8_init 0 = .ok (.aload_n 0, 1) := by decide +kernel
theorem dX8_init_1 : decode cX8_init 1 = .ok (.invokespecial 1, 3) := by decide +kernel
theorem dX8_init_4 : decode cX8_init 4 = .ok (.aload_n 0, 1) := by decide +kernel
theorem dX8_init_5 : decode cX8_init 5 = .ok (.iload_n 1, 1) := by decide +kernel
theorem dX8_init_6 : decode cX8_init 6 = .ok (.putfield 7, 3) := by decide +kernel
theorem dX8_init_9 : decode cX8_init 9 = .ok (.aload_n 0, 1) := by decide +kernel
theorem dX8_init_10 : decode cX8_init 10 = .ok (.iconst 0, 1) := by decide +kernel
theorem dX8_init_11 : decode cX8_init 11 = .ok (.iload_n 2, 1) := by decide +kernel
theorem dX8_init_12 : decode cX8_init 12 = .ok (.invokestatic 13, 3) := by decide +kernel
theorem dX8_init_15 : decode cX8_init 15 = .ok (.newarray .int, 2) := by decide +kernel
theorem dX8_init_17 : decode cX8_init 17 = .ok (.putfield 19, 3) := by decide +kernel
theorem dX8_init_20 : decode cX8_init 20 = .ok (.aload_n 0, 1) := by decide +kernel
theorem dX8_init_21 : decode cX8_init 21 = .ok (.getfield 19, 3) := by decide +kernel
theorem dX8_init_24 : decode cX8_init 24 = .ok (.iload_n 3, 1) := by decide +kernel
theorem dX8_init_25 : decode cX8_init 25 = .ok (.invokestatic 23, 3) := by decide +kernel
theorem dX8_init_28 : decode cX8_init 28 = .ok (.return_, 1) := by decide +kernel
theorem dX8_has_0 : decode cX8_has 0 = .ok (.iload_n 1, 1) := by decide +kernel
theorem dX8_has_1 : decode cX8_has 1 = .ok (.ifCond .lt 16, 3) := by decide +kernel
theorem dX8_has_4 : decode cX8_has 4 = .ok (.iload_n 1, 1) := by decide +kernel
theorem dX8_has_5 : decode cX8_has 5 = .ok (.aload_n 0, 1) := by decide +kernel
theorem dX8_has_6 : decode cX8_has 6 = .ok (.getfield 19, 3) := by decide +kernel
theorem dX8_has_9 : decode cX8_has 9 = .ok (.arraylength, 1) := by decide +kernel
theorem dX8_has_10 : decode cX8_has 10 = .ok (.if_icmp .ge 7, 3) := by decide +kernel
theorem dX8_has_13 : decode cX8_has 13 = .ok (.iconst 1, 1) := by decide +kernel
theorem dX8_has_14 : decode cX8_has 14 = .ok (.goto 4, 3) := by decide +kernel
theorem dX8_has_17 : decode cX8_has 17 = .ok (.iconst 0, 1) := by decide +kernel
theorem dX8_has_18 : decode cX8_has 18 = .ok (.ireturn, 1) := by decide +kernel
theorem dX8_hasAll_0 : decode cX8_hasAll 0 = .ok (.iload_n 1, 1) := by decide +kernel
theorem dX8_hasAll_1 : decode cX8_hasAll 1 = .ok (.ifCond .lt 22, 3) := by decide +kernel
theorem dX8_hasAll_4 : decode cX8_hasAll 4 = .ok (.iload_n 2, 1) := by decide +kernel
theorem dX8_hasAll_5 : decode cX8_hasAll 5 = .ok (.ifCond .lt 18, 3) := by decide +kernel
theorem dX8_hasAll_8 : decode cX8_hasAll 8 = .ok (.iload_n 1, 1) := by decide +kernel
theorem dX8_hasAll_9 : decode cX8_hasAll 9 = .ok (.aload_n 0, 1) := by decide +kernel
theorem dX8_hasAll_10 : decode cX8_hasAll 10 = .ok (.getfield 19, 3) := by decide +kernel
theorem dX8_hasAll_13 : decode cX8_hasAll 13 = .ok (.arraylength, 1) := by decide +kernel
theorem dX8_hasAll_14 : decode cX8_hasAll 14 = .ok (.iload_n 2, 1) := by decide +kernel
theorem dX8_hasAll_15 : decode cX8_hasAll 15 = .ok (.isub, 1) := by decide +kernel
theorem dX8_hasAll_16 : decode cX8_hasAll 16 = .ok (.if_icmp .gt 7, 3) := by decide +kernel
theorem dX8_hasAll_19 : decode cX8_hasAll 19 = .ok (.iconst 1, 1) := by decide +kernel
theorem dX8_hasAll_20 : decode cX8_hasAll 20 = .ok (.goto 4, 3) := by decide +kernel
theorem dX8_hasAll_23 : decode cX8_hasAll 23 = .ok (.iconst 0, 1) := by decide +kernel
theorem dX8_hasAll_24 : decode cX8_hasAll 24 = .ok (.ireturn, 1) := by decide +kernel
theorem dX8_replaceAll_0 : decode cX8_replaceAll 0 = .ok (.iconst 0, 1) := by decide +kernel
theorem dX8_replaceAll_1 : decode cX8_replaceAll 1 = .ok (.istore_n 3, 1) := by decide +kernel
theorem dX8_replaceAll_2 : decode cX8_replaceAll 2 = .ok (.iload_n 3, 1) := by decide +kernel
theorem dX8_replaceAll_3 : decode cX8_replaceAll 3 = .ok (.aload_n 0, 1) := by decide +kernel
theorem dX8_replaceAll_4 : decode cX8_replaceAll 4 = .ok (.getfield 19, 3) := by decide +kernel
theorem dX8_replaceAll_7 : decode cX8_replaceAll 7 = .ok (.arraylength, 1) := by decide +kernel
theorem dX8_replaceAll_8 : decode cX8_replaceAll 8 = .ok (.if_icmp .ge 26, 3) := by decide +kernel
theorem dX8_replaceAll_11 : decode cX8_replaceAll 11 = .ok (.aload_n 0, 1) := by decide +kernel
theorem dX8_replaceAll_12 : decode cX8_replaceAll 12 = .ok (.getfield 19, 3) := by decide +kernel
theorem dX8_replaceAll_15 : decode cX8_replaceAll 15 = .ok (.iload_n 3, 1) := by decide +kernel
theorem dX8_replaceAll_16 : decode cX8_replaceAll 16 = .ok (.iaload, 1) := by decide +kernel
theorem dX8_replaceAll_17 : decode cX8_replaceAll 17 = .ok (.iload_n 1, 1) := by decide +kernel
theorem dX8_replaceAll_18 : decode cX8_replaceAll 18 = .ok (.if_icmp .ne 10, 3) := by decide +kernel
theorem dX8_replaceAll_21 : decode cX8_replaceAll 21 = .ok (.aload_n 0, 1) := by decide +kernel
theorem dX8_replaceAll_22 : decode cX8_replaceAll 22 = .ok (.getfield 19, 3) := by decide +kernel
theorem dX8_replaceAll_25 : decode cX8_replaceAll 25 = .ok (.iload_n 3, 1) := by decide +kernel
theorem dX8_replaceAll_26 : decode cX8_replaceAll 26 = .ok (.iload_n 2, 1) := by decide +kernel
theorem dX8_replaceAll_27 : decode cX8_replaceAll 27 = .ok (.iastore, 1) := by decide +kernel
theorem dX8_replaceAll_28 : decode cX8_replaceAll 28 = .ok (.iinc 3 1, 3) := by decide +kernel
theorem dX8_replaceAll_31 : decode cX8_replaceAll 31 = .ok (.goto (-29), 3) := by decide +kernel
theorem dX8_replaceAll_34 : decode cX8_replaceAll 34 = .ok (.return_, 1) := by decide +kernel
theorem dX9_init_0 : decode cX9_init 0 = .ok (.aload_n 0, 1) := by decide +kernel
theorem dX9_init_1 : decode cX9_init 1 = .ok (.invokespecial 1, 3) := by decide +kernel
theorem dX9_init_4 : decode cX9_init 4 = .ok (.aload_n 0, 1) := by decide +kernel
theorem dX9_init_5 : decode cX9_init 5 = .ok (.iload_n 1, 1) := by decide +kernel
theorem dX9_init_6 : decode cX9_init 6 = .ok (.putfield 7, 3) := by decide +kernel
theorem dX9_init_9 : decode cX9_init 9 = .ok (.aload_n 0, 1) := by decide +kernel
theorem dX9_init_10 : decode cX9_init 10 = .ok (.aload_n 2, 1) := by decide +kernel
theorem dX9_init_11 : decode cX9_init 11 = .ok (.putfield 13, 3) := by decide +kernel
theorem dX9_init_14 : decode cX9_init 14 = .ok (.aload_n 0, 1) := by decide +kernel
theorem dX9_init_15 : decode cX9_init 15 = .ok (.iload_n 3, 1) := by decide +kernel
theorem dX9_init_16 : decode cX9_init 16 = .ok (.putfield 17, 3) := by decide +kernel
theorem dX9_init_19 : decode cX9_init 19 = .ok (.aload_n 0, 1) := by decide +kernel
theorem dX9_init_20 : decode cX9_init 20 = .ok (.iload 4, 2) := by decide +kernel
theorem dX9_init_22 : decode cX9_init 22 = .ok (.putfield 20, 3) := by decide +kernel
theorem dX9_init_25 : decode cX9_init 25 = .ok (.aload_n 0, 1) := by decide +kernel
theorem dX9_init_26 : decode cX9_init 26 = .ok (.iload 5, 2) := by decide +kernel
theorem dX9_init_28 : decode cX9_init 28 = .ok (.putfield 23, 3) := by decide +kernel
theorem dX9_init_31 : decode cX9_init 31 = .ok (.aload_n 0, 1) := by decide +kernel
theorem dX9_init_32 : decode cX9_init 32 = .ok (.iload 6, 2) := by decide +kernel
theorem dX9_init_34 : decode cX9_init 34 = .ok (.putfield 26, 3) := by decide +kernel
theorem dX9_init_37 : decode cX9_init 37 = .ok (.aload_n 0, 1) := by decide +kernel
theorem dX9_init_38 : decode cX9_init 38 = .ok (.iload 7, 2) := by decide +kernel
theorem dX9_init_40 : decode cX9_init 40 = .ok (.putfield 29, 3) := by decide +kernel
theorem dX9_init_43 : decode cX9_init 43 = .ok (.return_, 1) := by decide +kernel
theorem dX9_covers_0 : decode cX9_covers 0 = .ok (.iload_n 1, 1) := by decide +kernel
theorem dX9_covers_1 : decode cX9_covers 1 = .ok (.aload_n 0, 1) := by decide +kernel
theorem dX9_covers_2 : decode cX9_covers 2 = .ok (.getfield 17, 3) := by decide +kernel
theorem dX9_covers_5 : decode cX9_covers 5 = .ok (.if_icmp .lt 20, 3) := by decide +kernel
theorem dX9_covers_8 : decode cX9_covers 8 = .ok (.iload_n 1, 1) := by decide +kernel
theorem dX9_covers_9 : decode cX9_covers 9 = .ok (.aload_n 0, 1) := by decide +kernel
theorem dX9_covers_10 : decode cX9_covers 10 = .ok (.getfield 17, 3) := by decide +kernel
theorem dX9_covers_13 : decode cX9_covers 13 = .ok (.aload_n 0, 1) := by decide +kernel
theorem dX9_covers_14 : decode cX9_covers 14 = .ok (.getfield 20, 3) := by decide +kernel
theorem dX9_covers_17 : decode cX9_covers 17 = .ok (.iadd, 1) := by decide +kernel
theorem dX9_covers_18 : decode cX9_covers 18 = .ok (.if_icmp .ge 7, 3) := by decide +kernel
theorem dX9_covers_21 : decode cX9_covers 21 = .ok (.iconst 1, 1) := by decide +kernel
theorem dX9_covers_22 : decode cX9_covers 22 = .ok (.goto 4, 3) := by decide +kernel
theorem dX9_covers_25 : decode cX9_covers 25 = .ok (.iconst 0, 1) := by decide +kernel
theorem dX9_covers_26 : decode cX9_covers 26 = .ok (.ireturn, 1) := by decide +kernel
theorem dX9_liesIn_0 : decode cX9_liesIn 0 = .ok (.aload_n 0, 1) := by decide +kernel
theorem dX9_liesIn_1 : decode cX9_liesIn 1 = .ok (.getfield 13, 3) := by decide +kernel
theorem dX9_liesIn_4 : decode cX9_liesIn 4 = .ok (.aload_n 1, 1) := by decide +kernel
theorem dX9_liesIn_5 : decode cX9_liesIn 5 = .ok (.getfield 13, 3) := by decide +kernel
theorem dX9_liesIn_8 : decode cX9_liesIn 8 = .ok (.if_acmp .ne 39, 3) := by decide +kernel
theorem dX9_liesIn_11 : decode cX9_liesIn 11 = .ok (.aload_n 0, 1) := by decide +kernel
theorem dX9_liesIn_12 : decode cX9_liesIn 12 = .ok (.getfield 17, 3) := by decide +kernel
theorem dX9_liesIn_15 : decode cX9_liesIn 15 = .ok (.aload_n 1, 1) := by decide +kernel
theorem dX9_liesIn_16 : decode cX9_liesIn 16 = .ok (.getfield 17, 3) := by decide +kernel
theorem dX9_liesIn_19 : decode cX9_liesIn 19 = .ok (.if_icmp .lt 28, 3) := by decide +kernel
theorem dX9_liesIn_22 : decode cX9_liesIn 22 = .ok (.aload_n 0, 1) := by decide +kernel
theorem dX9_liesIn_23 : decode cX9_liesIn 23 = .ok (.getfield 17, 3) := by decide +kernel
theorem dX9_liesIn_26 : decode cX9_liesIn 26 = .ok (.aload_n 0, 1) := by decide +kernel
theorem dX9_liesIn_27 : decode cX9_liesIn 27 = .ok (.getfield 20, 3) := by decide +kernel
theorem dX9_liesIn_30 : decode cX9_liesIn 30 = .ok (.iadd, 1) := by decide +kernel
theorem dX9_liesIn_31 : decode cX9_liesIn 31 = .ok (.aload_n 1, 1) := by decide +kernel
theorem dX9_liesIn_32 : decode cX9_liesIn 32 = .ok (.getfield 17, 3) := by decide +kernel
theorem dX9_liesIn_35 : decode cX9_liesIn 35 = .ok (.aload_n 1, 1) := by decide +kernel
theorem dX9_liesIn_36 : decode cX9_liesIn 36 = .ok (.getfield 20, 3) := by decide +kernel
theorem dX9_liesIn_39 : decode cX9_liesIn 39 = .ok (.iadd, 1) := by decide +kernel
theorem dX9_liesIn_40 : decode cX9_liesIn 40 = .ok (.if_icmp .gt 7, 3) := by decide +kernel
theorem dX9_liesIn_43 : decode cX9_liesIn 43 = .ok (.iconst 1, 1) := by decide +kernel
theorem dX9_liesIn_44 : decode cX9_liesIn 44 = .ok (.goto 4, 3) := by decide +kernel
theorem dX9_liesIn_47 : decode cX9_liesIn 47 = .ok (.iconst 0, 1) := by decide +kernel
theorem dX9_liesIn_48 : decode cX9_liesIn 48 = .ok (.istore_n 2, 1) := by decide +kernel
theorem dX9_liesIn_49 : decode cX9_liesIn 49 = .ok (.iload_n 2, 1) := by decide +kernel
theorem dX9_liesIn_50 : decode cX9_liesIn 50 = .ok (.ifCond .eq 29, 3) := by decide +kernel
theorem dX9_liesIn_53 : decode cX9_liesIn 53 = .ok (.aload_n 0, 1) := by decide +kernel
theorem dX9_liesIn_54 : decode cX9_liesIn 54 = .ok (.getfield 20, 3) := by decide +kernel
theorem dX9_liesIn_57 : decode cX9_liesIn 57 = .ok (.aload_n 1, 1) := by decide +kernel
theorem dX9_liesIn_58 : decode cX9_liesIn 58 = .ok (.getfield 20, 3) := by decide +kernel
theorem dX9_liesIn_61 : decode cX9_liesIn 61 = .ok (.if_icmp .lt 14, 3) := by decide +kernel
theorem dX9_liesIn_64 : decode cX9_liesIn 64 = .ok (.aload_n 0, 1) := by decide +kernel
theorem dX9_liesIn_65 : decode cX9_liesIn 65 = .ok (.getfield 7, 3) := by decide +kernel
theorem dX9_liesIn_68 : decode cX9_liesIn 68 = .ok (.aload_n 1, 1) := by decide +kernel
theorem dX9_liesIn_69 : decode cX9_liesIn 69 = .ok (.getfield 7, 3) := by decide +kernel
theorem dX9_liesIn_72 : decode cX9_liesIn 72 = .ok (.if_icmp .le 7, 3) := by decide +kernel
theorem dX9_liesIn_75 : decode cX9_liesIn 75 = .ok (.iconst 1, 1) := by decide +kernel
theorem dX9_liesIn_76 : decode cX9_liesIn 76 = .ok (.goto 4, 3) := by decide +kernel
theorem dX9_liesIn_79 : decode cX9_liesIn 79 = .ok (.iconst 0, 1) := by decide +kernel
theorem dX9_liesIn_80 : decode cX9_liesIn 80 = .ok (.ireturn, 1) := by decide +kernel
theorem dX9_crosses_0 : decode cX9_crosses 0 = .ok (.aload_n 0, 1) := by decide +kernel
theorem dX9_crosses_1 : decode cX9_crosses 1 = .ok (.getfield 17, 3) := by decide +kernel
theorem dX9_crosses_4 : decode cX9_crosses 4 = .ok (.aload_n 0, 1) := by decide +kernel
theorem dX9_crosses_5 : decode cX9_crosses 5 = .ok (.getfield 20, 3) := by decide +kernel
theorem dX9_crosses_8 : decode cX9_crosses 8 = .ok (.iadd, 1) := by decide +kernel
theorem dX9_crosses_9 : decode cX9_crosses 9 = .ok (.istore_n 3, 1) := by decide +kernel
theorem dX9_crosses_10 : decode cX9_crosses 10 = .ok (.iload_n 1, 1) := by decide +kernel
theorem dX9_crosses_11 : decode cX9_crosses 11 = .ok (.iload_n 2, 1) := by decide +kernel
theorem dX9_crosses_12 : decode cX9_crosses 12 = .ok (.iadd, 1) := by decide +kernel
theorem dX9_crosses_13 : decode cX9_crosses 13 = .ok (.istore 4, 2) := by decide +kernel
theorem dX9_crosses_15 : decode cX9_crosses 15 = .ok (.iload_n 3, 1) := by decide +kernel
theorem dX9_crosses_16 : decode cX9_crosses 16 = .ok (.iload_n 1, 1) := by decide +kernel
theorem dX9_crosses_17 : decode cX9_crosses 17 = .ok (.if_icmp .le 12, 3) := by decide +kernel
theorem dX9_crosses_20 : decode cX9_crosses 20 = .ok (.iload 4, 2) := by decide +kernel
theorem dX9_crosses_22 : decode cX9_crosses 22 = .ok (.aload_n 0, 1) := by decide +kernel
theorem dX9_crosses_23 : decode cX9_crosses 23 = .ok (.getfield 17, 3) := by decide +kernel
theorem dX9_crosses_26 : decode cX9_crosses 26 = .ok (.if_icmp .gt 7, 3) := by decide +kernel
theorem dX9_crosses_29 : decode cX9_crosses 29 = .ok (.iconst 1, 1) := by decide +kernel
theorem dX9_crosses_30 : decode cX9_crosses 30 = .ok (.goto 4, 3) := by decide +kernel
theorem dX9_crosses_33 : decode cX9_crosses 33 = .ok (.iconst 0, 1) := by decide +kernel
theorem dX9_crosses_34 : decode cX9_crosses 34 = .ok (.istore 5, 2) := by decide +kernel
theorem dX9_crosses_36 : decode cX9_crosses 36 = .ok (.aload_n 0, 1) := by decide +kernel
theorem dX9_crosses_37 : decode cX9_crosses 37 = .ok (.getfield 17, 3) := by decide +kernel
theorem dX9_crosses_40 : decode cX9_crosses 40 = .ok (.iload_n 1, 1) := by decide +kernel
theorem dX9_crosses_41 : decode cX9_crosses 41 = .ok (.if_icmp .lt 13, 3) := by decide +kernel
theorem dX9_crosses_44 : decode cX9_crosses 44 = .ok (.iload_n 3, 1) := by decide +kernel
theorem dX9_crosses_45 : decode cX9_crosses 45 = .ok (.iload 4, 2) := by decide +kernel
theorem dX9_crosses_47 : decode cX9_crosses 47 = .ok (.if_icmp .gt 7, 3) := by decide +kernel
theorem dX9_crosses_50 : decode cX9_crosses 50 = .ok (.iconst 1, 1) := by decide +kernel
theorem dX9_crosses_51 : decode cX9_crosses 51 = .ok (.goto 4, 3) := by decide +kernel
theorem dX9_crosses_54 : decode cX9_crosses 54 = .ok (.iconst 0, 1) := by decide +kernel
theorem dX9_crosses_55 : decode cX9_crosses 55 = .ok (.istore 6, 2) := by decide +kernel
theorem dX9_crosses_57 : decode cX9_crosses 57 = .ok (.aload_n 0, 1) := by decide +kernel
theorem dX9_crosses_58 : decode cX9_crosses 58 = .ok (.getfield 17, 3) := by decide +kernel
theorem dX9_crosses_61 : decode cX9_crosses 61 = .ok (.iload_n 1, 1) := by decide +kernel
theorem dX9_crosses_62 : decode cX9_crosses 62 = .ok (.if_icmp .gt 13, 3) := by decide +kernel
theorem dX9_crosses_65 : decode cX9_crosses 65 = .ok (.iload_n 3, 1) := by decide +kernel
theorem dX9_crosses_66 : decode cX9_crosses 66 = .ok (.iload 4, 2) := by decide +kernel
theorem dX9_crosses_68 : decode cX9_crosses 68 = .ok (.if_icmp .lt 7, 3) := by decide +kernel
theorem dX9_crosses_71 : decode cX9_crosses 71 = .ok (.iconst 1, 1) := by decide +kernel
theorem dX9_crosses_72 : decode cX9_crosses 72 = .ok (.goto 4, 3) := by decide +kernel
theorem dX9_crosses_75 : decode cX9_crosses 75 = .ok (.iconst 0, 1) := by decide +kernel
theorem dX9_crosses_76 : decode cX9_crosses 76 = .ok (.istore 7, 2) := by decide +kernel
theorem dX9_crosses_78 : decode cX9_crosses 78 = .ok (.iload 5, 2) := by decide +kernel
theorem dX9_crosses_80 : decode cX9_crosses 80 = .ok (.ifCond .ne 17, 3) := by decide +kernel
theorem dX9_crosses_83 : decode cX9_crosses 83 = .ok (.iload 6, 2) := by decide +kernel
theorem dX9_crosses_85 : decode cX9_crosses 85 = .ok (.ifCond .ne 12, 3) := by decide +kernel
theorem dX9_crosses_88 : decode cX9_crosses 88 = .ok (.iload 7, 2) := by decide +kernel
theorem dX9_crosses_90 : decode cX9_crosses 90 = .ok (.ifCond .ne 7, 3) := by decide +kernel
theorem dX9_crosses_93 : decode cX9_crosses 93 = .ok (.iconst 1, 1) := by decide +kernel
theorem dX9_crosses_94 : decode cX9_crosses 94 = .ok (.goto 4, 3) := by decide +kernel
theorem dX9_crosses_97 : decode cX9_crosses 97 = .ok (.iconst 0, 1) := by decide +kernel
theorem dX9_crosses_98 : decode cX9_crosses 98 = .ok (.ireturn, 1) := by decide +kernel
theorem dX9_makeRoom_0 : decode cX9_makeRoom 0 = .ok (.iload_n 1, 1) := by decide +kernel
theorem dX9_makeRoom_1 : decode cX9_makeRoom 1 = .ok (.aload_n 0, 1) := by decide +kernel
theorem dX9_makeRoom_2 : decode cX9_makeRoom 2 = .ok (.getfield 17, 3) := by decide +kernel
theorem dX9_makeRoom_5 : decode cX9_makeRoom 5 = .ok (.if_icmp .gt 16, 3) := by decide +kernel
theorem dX9_makeRoom_8 : decode cX9_makeRoom 8 = .ok (.aload_n 0, 1) := by decide +kernel
theorem dX9_makeRoom_9 : decode cX9_makeRoom 9 = .ok (.dup, 1) := by decide +kernel
theorem dX9_makeRoom_10 : decode cX9_makeRoom 10 = .ok (.getfield 17, 3) := by decide +kernel
theorem dX9_makeRoom_13 : decode cX9_makeRoom 13 = .ok (.iconst 1, 1) := by decide +kernel
theorem dX9_makeRoom_14 : decode cX9_makeRoom 14 = .ok (.iadd, 1) := by decide +kernel
theorem dX9_makeRoom_15 : decode cX9_makeRoom 15 = .ok (.putfield 17, 3) := by decide +kernel
theorem dX9_makeRoom_18 : decode cX9_makeRoom 18 = .ok (.goto 21, 3) := by decide +kernel
theorem dX9_makeRoom_21 : decode cX9_makeRoom 21 = .ok (.aload_n 0, 1) := by decide +kernel
theorem dX9_makeRoom_22 : decode cX9_makeRoom 22 = .ok (.iload_n 1, 1) := by decide +kernel
theorem dX9_makeRoom_23 : decode cX9_makeRoom 23 = .ok (.invokevirtual 32, 3) := by decide +kernel
theorem dX9_makeRoom_26 : decode cX9_makeRoom 26 = .ok (.ifCond .eq 13, 3) := by decide +kernel
theorem dX9_makeRoom_29 : decode cX9_makeRoom 29 = .ok (.aload_n 0, 1) := by decide +kernel
theorem dX9_makeRoom_30 : decode cX9_makeRoom 30 = .ok (.dup, 1) := by decide +kernel
theorem dX9_makeRoom_31 : decode cX9_makeRoom 31 = .ok (.getfield 20, 3) := by decide +kernel
theorem dX9_makeRoom_34 : decode cX9_makeRoom 34 = .ok (.iconst 1, 1) := by decide +kernel
theorem dX9_makeRoom_35 : decode cX9_makeRoom 35 = .ok (.iadd, 1) := by decide +kernel
theorem dX9_makeRoom_36 : decode cX9_makeRoom 36 = .ok (.putfield 20, 3) := by decide +kernel
theorem dX9_makeRoom_39 : decode cX9_makeRoom 39 = .ok (.return_, 1) := by decide +kernel
theorem dX9_closeUp_0 : decode cX9_closeUp 0 = .ok (.iload_n 1, 1) := by decide +kernel
theorem dX9_closeUp_1 : decode cX9_closeUp 1 = .ok (.aload_n 0, 1) := by decide +kernel
theorem dX9_closeUp_2 : decode cX9_closeUp 2 = .ok (.getfield 17, 3) := by decide +kernel
theorem dX9_closeUp_5 : decode cX9_closeUp 5 = .ok (.if_icmp .ge 16, 3) := by decide +kernel
theorem dX9_closeUp_8 : decode cX9_closeUp 8 = .ok (.aload_n 0, 1) := by decide +kernel
theorem dX9_closeUp_9 : decode cX9_closeUp 9 = .ok (.dup, 1) := by decide +kernel
theorem dX9_closeUp_10 : decode cX9_closeUp 10 = .ok (.getfield 17, 3) := by decide +kernel
theorem dX9_closeUp_13 : decode cX9_closeUp 13 = .ok (.iconst 1, 1) := by decide +kernel
theorem dX9_closeUp_14 : decode cX9_closeUp 14 = .ok (.isub, 1) := by decide +kernel
theorem dX9_closeUp_15 : decode cX9_closeUp 15 = .ok (.putfield 17, 3) := by decide +kernel
theorem dX9_closeUp_18 : decode cX9_closeUp 18 = .ok (.goto 21, 3) := by decide +kernel
theorem dX9_closeUp_21 : decode cX9_closeUp 21 = .ok (.aload_n 0, 1) := by decide +kernel
theorem dX9_closeUp_22 : decode cX9_closeUp 22 = .ok (.iload_n 1, 1) := by decide +kernel
theorem dX9_closeUp_23 : decode cX9_closeUp 23 = .ok (.invokevirtual 32, 3) := by decide +kernel
theorem dX9_closeUp_26 : decode cX9_closeUp 26 = .ok (.ifCond .eq 13, 3) := by decide +kernel
theorem dX9_closeUp_29 : decode cX9_closeUp 29 = .ok (.aload_n 0, 1) := by decide +kernel
theorem dX9_closeUp_30 : decode cX9_closeUp 30 = .ok (.dup, 1) := by decide +kernel
theorem dX9_closeUp_31 : decode cX9_closeUp 31 = .ok (.getfield 20, 3) := by decide +kernel
theorem dX9_closeUp_34 : decode cX9_closeUp 34 = .ok (.iconst 1, 1) := by decide +kernel
theorem dX9_closeUp_35 : decode cX9_closeUp 35 = .ok (.isub, 1) := by decide +kernel
theorem dX9_closeUp_36 : decode cX9_closeUp 36 = .ok (.putfield 20, 3) := by decide +kernel
theorem dX9_closeUp_39 : decode cX9_closeUp 39 = .ok (.return_, 1) := by decide +kernel
theorem dX9_squeezed_0 : decode cX9_squeezed 0 = .ok (.aload_n 0, 1) := by decide +kernel
theorem dX9_squeezed_1 : decode cX9_squeezed 1 = .ok (.getfield 23, 3) := by decide +kernel
theorem dX9_squeezed_4 : decode cX9_squeezed 4 = .ok (.iconst 1, 1) := by decide +kernel
theorem dX9_squeezed_5 : decode cX9_squeezed 5 = .ok (.if_icmp .ge 7, 3) := by decide +kernel
theorem dX9_squeezed_8 : decode cX9_squeezed 8 = .ok (.lload_n 1, 1) := by decide +kernel
theorem dX9_squeezed_9 : decode cX9_squeezed 9 = .ok (.goto 16, 3) := by decide +kernel
theorem dX9_squeezed_12 : decode cX9_squeezed 12 = .ok (.lload_n 1, 1) := by decide +kernel
theorem dX9_squeezed_13 : decode cX9_squeezed 13 = .ok (.aload_n 0, 1) := by decide +kernel
theorem dX9_squeezed_14 : decode cX9_squeezed 14 = .ok (.getfield 26, 3) := by decide +kernel
theorem dX9_squeezed_17 : decode cX9_squeezed 17 = .ok (.i2l, 1) := by decide +kernel
theorem dX9_squeezed_18 : decode cX9_squeezed 18 = .ok (.lmul, 1) := by decide +kernel
theorem dX9_squeezed_19 : decode cX9_squeezed 19 = .ok (.aload_n 0, 1) := by decide +kernel
theorem dX9_squeezed_20 : decode cX9_squeezed 20 = .ok (.getfield 23, 3) := by decide +kernel
theorem dX9_squeezed_23 : decode cX9_squeezed 23 = .ok (.i2l, 1) := by decide +kernel
theorem dX9_squeezed_24 : decode cX9_squeezed 24 = .ok (.ldiv, 1) := by decide +kernel
theorem dX9_squeezed_25 : decode cX9_squeezed 25 = .ok (.lreturn, 1) := by decide +kernel
theorem dX9_squeezeEvents_0 : decode cX9_squeezeEvents 0 = .ok (.aload_n 0, 1) := by decide +kernel
theorem dX9_squeezeEvents_1 : decode cX9_squeezeEvents 1 = .ok (.getfield 17, 3) := by decide +kernel
theorem dX9_squeezeEvents_4 : decode cX9_squeezeEvents 4 = .ok (.istore_n 1, 1) := by decide +kernel
theorem dX9_squeezeEvents_5 : decode cX9_squeezeEvents 5 = .ok (.iload_n 1, 1) := by decide +kernel
theorem dX9_squeezeEvents_6 : decode cX9_squeezeEvents 6 = .ok (.aload_n 0, 1) := by decide +kernel
theorem dX9_squeezeEvents_7 : decode cX9_squeezeEvents 7 = .ok (.getfield 17, 3) := by decide +kernel
theorem dX9_squeezeEvents_10 : decode cX9_squeezeEvents 10 = .ok (.aload_n 0, 1) := by decide +kernel
theorem dX9_squeezeEvents_11 : decode cX9_squeezeEvents 11 = .ok (.getfield 20, 3) := by decide +kernel
theorem dX9_squeezeEvents_14 : decode cX9_squeezeEvents 14 = .ok (.iadd, 1) := by decide +kernel
theorem dX9_squeezeEvents_15 : decode cX9_squeezeEvents 15 = .ok (.if_icmp .ge 34, 3) := by decide +kernel
theorem dX9_squeezeEvents_18 : decode cX9_squeezeEvents 18 = .ok (.aload_n 0, 1) := by decide +kernel
theorem dX9_squeezeEvents_19 : decode cX9_squeezeEvents 19 = .ok (.getfield 13, 3) := by decide +kernel
theorem dX9_squeezeEvents_22 : decode cX9_squeezeEvents 22 = .ok (.iload_n 1, 1) := by decide +kernel
theorem dX9_squeezeEvents_23 : decode cX9_squeezeEvents 23 = .ok (.invokevirtual 36, 3) := by decide +kernel
theorem dX9_squeezeEvents_26 : decode cX9_squeezeEvents 26 = .ok (.astore_n 2, 1) := by decide +kernel
theorem dX9_squeezeEvents_27 : decode cX9_squeezeEvents 27 = .ok (.aload_n 2, 1) := by decide +kernel
theorem dX9_squeezeEvents_28 : decode cX9_squeezeEvents 28 = .ok (.ifnull 15, 3) := by decide +kernel
theorem dX9_squeezeEvents_31 : decode cX9_squeezeEvents 31 = .ok (.aload_n 2, 1) := by decide +kernel
theorem dX9_squeezeEvents_32 : decode cX9_squeezeEvents 32 = .ok (.aload_n 0, 1) := by decide +kernel
theorem dX9_squeezeEvents_33 : decode cX9_squeezeEvents 33 = .ok (.aload_n 2, 1) := by decide +kernel
theorem dX9_squeezeEvents_34 : decode cX9_squeezeEvents 34 = .ok (.getfield 42, 3) := by decide +kernel
theorem dX9_squeezeEvents_37 : decode cX9_squeezeEvents 37 = .ok (.invokevirtual 48, 3) := by decide +kernel
theorem dX9_squeezeEvents_40 : decode cX9_squeezeEvents 40 = .ok (.putfield 42, 3) := by decide +kernel
theorem dX9_squeezeEvents_43 : decode cX9_squeezeEvents 43 = .ok (.iinc 1 1, 3) := by decide +kernel
theorem dX9_squeezeEvents_46 : decode cX9_squeezeEvents 46 = .ok (.goto (-41), 3) := by decide +kernel
theorem dX9_squeezeEvents_49 : decode cX9_squeezeEvents 49 = .ok (.return_, 1) := by decide +kernel
theorem dX9_looksLike_0 : decode cX9_looksLike 0 = .ok (.aload_n 0, 1) := by decide +kernel
theorem dX9_looksLike_1 : decode cX9_looksLike 1 = .ok (.getfield 23, 3) := by decide +kernel
theorem dX9_looksLike_4 : decode cX9_looksLike 4 = .ok (.aload_n 1, 1) := by decide +kernel
theorem dX9_looksLike_5 : decode cX9_looksLike 5 = .ok (.getfield 23, 3) := by decide +kernel
theorem dX9_looksLike_8 : decode cX9_looksLike 8 = .ok (.if_icmp .ne 51, 3) := by decide +kernel
theorem dX9_looksLike_11 : decode cX9_looksLike 11 = .ok (.aload_n 0, 1) := by decide +kernel
theorem dX9_looksLike_12 : decode cX9_looksLike 12 = .ok (.getfield 26, 3) := by decide +kernel
theorem dX9_looksLike_15 : decode cX9_looksLike 15 = .ok (.aload_n 1, 1) := by decide +kernel
theorem dX9_looksLike_16 : decode cX9_looksLike 16 = .ok (.getfield 26, 3) := by decide +kernel
theorem dX9_looksLike_19 : decode cX9_looksLike 19 = .ok (.if_icmp .ne 40, 3) := by decide +kernel
theorem dX9_looksLike_22 : decode cX9_looksLike 22 = .ok (.aload_n 0, 1) := by decide +kernel
theorem dX9_looksLike_23 : decode cX9_looksLike 23 = .ok (.getfield 29, 3) := by decide +kernel
theorem dX9_looksLike_26 : decode cX9_looksLike 26 = .ok (.aload_n 1, 1) := by decide +kernel
theorem dX9_looksLike_27 : decode cX9_looksLike 27 = .ok (.getfield 29, 3) := by decide +kernel
theorem dX9_looksLike_30 : decode cX9_looksLike 30 = .ok (.if_icmp .ne 29, 3) := by decide +kernel
theorem dX9_looksLike_33 : decode cX9_looksLike 33 = .ok (.aload_n 0, 1) := by decide +kernel
theorem dX9_looksLike_34 : decode cX9_looksLike 34 = .ok (.getfield 17, 3) := by decide +kernel
theorem dX9_looksLike_37 : decode cX9_looksLike 37 = .ok (.aload_n 1, 1) := by decide +kernel
theorem dX9_looksLike_38 : decode cX9_looksLike 38 = .ok (.getfield 17, 3) := by decide +kernel
theorem dX9_looksLike_41 : decode cX9_looksLike 41 = .ok (.if_icmp .ne 18, 3) := by decide +kernel
theorem dX9_looksLike_44 : decode cX9_looksLike 44 = .ok (.aload_n 0, 1) := by decide +kernel
theorem dX9_looksLike_45 : decode cX9_looksLike 45 = .ok (.getfield 20, 3) := by decide +kernel
theorem dX9_looksLike_48 : decode cX9_looksLike 48 = .ok (.aload_n 1, 1) := by decide +kernel
theorem dX9_looksLike_49 : decode cX9_looksLike 49 = .ok (.getfield 20, 3) := by decide +kernel
theorem dX9_looksLike_52 : decode cX9_looksLike 52 = .ok (.if_icmp .ne 7, 3) := by decide +kernel
theorem dX9_looksLike_55 : decode cX9_looksLike 55 = .ok (.iconst 1, 1) := by decide +kernel
theorem dX9_looksLike_56 : decode cX9_looksLike 56 = .ok (.goto 4, 3) := by decide +kernel
theorem dX9_looksLike_59 : decode cX9_looksLike 59 = .ok (.iconst 0, 1) := by decide +kernel
theorem dX9_looksLike_60 : decode cX9_looksLike 60 = .ok (.ireturn, 1) := by decide +kernel
theorem dX10_init_0 : decode cX10_init 0 = .ok (.aload_n 0, 1) := by decide +kernel
theorem dX10_init_1 : decode cX10_init 1 = .ok (.invokespecial 3, 3) := by decide +kernel
theorem dX10_init_4 : decode cX10_init 4 = .ok (.aload_n 0, 1) := by decide +kernel
theorem dX10_init_5 : decode cX10_init 5 = .ok (.bipush 40, 2) := by decide +kernel
theorem dX10_init_7 : decode cX10_init 7 = .ok (.anewarray 9, 3) := by decide +kernel
theorem dX10_init_10 : decode cX10_init 10 = .ok (.putfield 11, 3) := by decide +kernel
theorem dX10_init_13 : decode cX10_init 13 = .ok (.aload_n 0, 1) := by decide +kernel
theorem dX10_init_14 : decode cX10_init 14 = .ok (.iconst 0, 1) := by decide +kernel
theorem dX10_init_15 : decode cX10_init 15 = .ok (.putfield 17, 3) := by decide +kernel
theorem dX10_init_18 : decode cX10_init 18 = .ok (.aload_n 0, 1) := by decide +kernel
theorem dX10_init_19 : decode cX10_init 19 = .ok (.iconst 0, 1) := by decide +kernel
theorem dX10_init_20 : decode cX10_init 20 = .ok (.putfield 21, 3) := by decide +kernel
theorem dX10_init_23 : decode cX10_init 23 = .ok (.aload_n 0, 1) := by decide +kernel
theorem dX10_init_24 : decode cX10_init 24 = .ok (.lconst 0, 1) := by decide +kernel
theorem dX10_init_25 : decode cX10_init 25 = .ok (.putfield 24, 3) := by decide +kernel
theorem dX10_init_28 : decode cX10_init 28 = .ok (.aload_n 0, 1) := by decide +kernel
theorem dX10_init_29 : decode cX10_init 29 = .ok (.iload_n 1, 1) := by decide +kernel
theorem dX10_init_30 : decode cX10_init 30 = .ok (.putfield 28, 3) := by decide +kernel
theorem dX10_init_33 : decode cX10_init 33 = .ok (.aload_n 0, 1) := by decide +kernel
theorem dX10_init_34 : decode cX10_init 34 = .ok (.aload_n 2, 1) := by decide +kernel
theorem dX10_init_35 : decode cX10_init 35 = .ok (.putfield 31, 3) := by decide +kernel
theorem dX10_init_38 : decode cX10_init 38 = .ok (.return_, 1) := by decide +kernel
theorem dX10_eventAt_0 : decode cX10_eventAt 0 = .ok (.iload_n 1, 1) := by decide +kernel
theorem dX10_eventAt_1 : decode cX10_eventAt 1 = .ok (.ifCond .lt 11, 3) := by decide +kernel
theorem dX10_eventAt_4 : decode cX10_eventAt 4 = .ok (.iload_n 1, 1) := by decide +kernel
theorem dX10_eventAt_5 : decode cX10_eventAt 5 = .ok (.aload_n 0, 1) := by decide +kernel
theorem dX10_eventAt_6 : decode cX10_eventAt 6 = .ok (.getfield 17, 3) := by decide +kernel
theorem dX10_eventAt_9 : decode cX10_eventAt 9 = .ok (.if_icmp .lt 7, 3) := by decide +kernel
theorem dX10_eventAt_12 : decode cX10_eventAt 12 = .ok (.aconst_null, 1) := by decide +kernel
theorem dX10_eventAt_13 : decode cX10_eventAt 13 = .ok (.goto 9, 3) := by decide +kernel
theorem dX10_eventAt_16 : decode cX10_eventAt 16 = .ok (.aload_n 0, 1) := by decide +kernel
theorem dX10_eventAt_17 : decode cX10_eventAt 17 = .ok (.getfield 11, 3) := by decide +kernel
theorem dX10_eventAt_20 : decode cX10_eventAt 20 = .ok (.iload_n 1, 1) := by decide +kernel
theorem dX10_eventAt_21 : decode cX10_eventAt 21 = .ok (.aaload, 1) := by decide +kernel
theorem dX10_eventAt_22 : decode cX10_eventAt 22 = .ok (.areturn, 1) := by decide +kernel
theorem dX10_insert_0 : decode cX10_insert 0 = .ok (.iload_n 1, 1) := by decide +kernel
theorem dX10_insert_1 : decode cX10_insert 1 = .ok (.ifCond .lt 20, 3) := by decide +kernel
theorem dX10_insert_4 : decode cX10_insert 4 = .ok (.iload_n 1, 1) := by decide +kernel
theorem dX10_insert_5 : decode cX10_insert 5 = .ok (.aload_n 0, 1) := by decide +kernel
theorem dX10_insert_6 : decode cX10_insert 6 = .ok (.getfield 17, 3) := by decide +kernel
theorem dX10_insert_9 : decode cX10_insert 9 = .ok (.if_icmp .gt 12, 3) := by decide +kernel
theorem dX10_insert_12 : decode cX10_insert 12 = .ok (.aload_n 0, 1) := by decide +kernel
theorem dX10_insert_13 : decode cX10_insert 13 = .ok (.getfield 17, 3) := by decide +kernel
theorem dX10_insert_16 : decode cX10_insert 16 = .ok (.bipush 40, 2) := by decide +kernel
theorem dX10_insert_18 : decode cX10_insert 18 = .ok (.if_icmp .lt 4, 3) := by decide +kernel
theorem dX10_insert_21 : decode cX10_insert 21 = .ok (.return_, 1) := by decide +kernel
theorem dX10_insert_22 : decode cX10_insert 22 = .ok (.aload_n 0, 1) := by decide +kernel
theorem dX10_insert_23 : decode cX10_insert 23 = .ok (.getfield 17, 3) := by decide +kernel
theorem dX10_insert_26 : decode cX10_insert 26 = .ok (.istore_n 3, 1) := by decide +kernel
theorem dX10_insert_27 : decode cX10_insert 27 = .ok (.iload_n 3, 1) := by decide +kernel
theorem dX10_insert_28 : decode cX10_insert 28 = .ok (.iload_n 1, 1) := by decide +kernel
theorem dX10_insert_29 : decode cX10_insert 29 = .ok (.if_icmp .le 23, 3) := by decide +kernel
theorem dX10_insert_32 : decode cX10_insert 32 = .ok (.aload_n 0, 1) := by decide +kernel
theorem dX10_insert_33 : decode cX10_insert 33 = .ok (.getfield 11, 3) := by decide +kernel
theorem dX10_insert_36 : decode cX10_insert 36 = .ok (.iload_n 3, 1) := by decide +kernel
theorem dX10_insert_37 : decode cX10_insert 37 = .ok (.aload_n 0, 1) := by decide +kernel
theorem dX10_insert_38 : decode cX10_insert 38 = .ok (.getfield 11, 3) := by decide +kernel
theorem dX10_insert_41 : decode cX10_insert 41 = .ok (.iload_n 3, 1) := by decide +kernel
theorem dX10_insert_42 : decode cX10_insert 42 = .ok (.iconst 1, 1) := by decide +kernel
theorem dX10_insert_43 : decode cX10_insert 43 = .ok (.isub, 1) := by decide +kernel
theorem dX10_insert_44 : decode cX10_insert 44 = .ok (.aaload, 1) := by decide +kernel
theorem dX10_insert_45 : decode cX10_insert 45 = .ok (.aastore, 1) := by decide +kernel
theorem dX10_insert_46 : decode cX10_insert 46 = .ok (.iinc 3 (-1), 3) := by decide +kernel
theorem dX10_insert_49 : decode cX10_insert 49 = .ok (.goto (-22), 3) := by decide +kernel
theorem dX10_insert_52 : decode cX10_insert 52 = .ok (.aload_n 0, 1) := by decide +kernel
theorem dX10_insert_53 : decode cX10_insert 53 = .ok (.getfield 11, 3) := by decide +kernel
theorem dX10_insert_56 : decode cX10_insert 56 = .ok (.iload_n 1, 1) := by decide +kernel
theorem dX10_insert_57 : decode cX10_insert 57 = .ok (.aload_n 2, 1) := by decide +kernel
theorem dX10_insert_58 : decode cX10_insert 58 = .ok (.aastore, 1) := by decide +kernel
theorem dX10_insert_59 : decode cX10_insert 59 = .ok (.aload_n 0, 1) := by decide +kernel
theorem dX10_insert_60 : decode cX10_insert 60 = .ok (.dup, 1) := by decide +kernel
theorem dX10_insert_61 : decode cX10_insert 61 = .ok (.getfield 17, 3) := by decide +kernel
theorem dX10_insert_64 : decode cX10_insert 64 = .ok (.iconst 1, 1) := by decide +kernel
theorem dX10_insert_65 : decode cX10_insert 65 = .ok (.iadd, 1) := by decide +kernel
theorem dX10_insert_66 : decode cX10_insert 66 = .ok (.putfield 17, 3) := by decide +kernel
theorem dX10_insert_69 : decode cX10_insert 69 = .ok (.return_, 1) := by decide +kernel
theorem dX10_remove_0 : decode cX10_remove 0 = .ok (.iload_n 1, 1) := by decide +kernel
theorem dX10_remove_1 : decode cX10_remove 1 = .ok (.ifCond .lt 11, 3) := by decide +kernel
theorem dX10_remove_4 : decode cX10_remove 4 = .ok (.iload_n 1, 1) := by decide +kernel
theorem dX10_remove_5 : decode cX10_remove 5 = .ok (.aload_n 0, 1) := by decide +kernel
theorem dX10_remove_6 : decode cX10_remove 6 = .ok (.getfield 17, 3) := by decide +kernel
theorem dX10_remove_9 : decode cX10_remove 9 = .ok (.if_icmp .lt 4, 3) := by decide +kernel
theorem dX10_remove_12 : decode cX10_remove 12 = .ok (.return_, 1) := by decide +kernel
theorem dX10_remove_13 : decode cX10_remove 13 = .ok (.aload_n 0, 1) := by decide +kernel
theorem dX10_remove_14 : decode cX10_remove 14 = .ok (.dup, 1) := by decide +kernel
theorem dX10_remove_15 : decode cX10_remove 15 = .ok (.getfield 17, 3) := by decide +kernel
theorem dX10_remove_18 : decode cX10_remove 18 = .ok (.iconst 1, 1) := by decide +kernel
theorem dX10_remove_19 : decode cX10_remove 19 = .ok (.isub, 1) := by decide +kernel
theorem dX10_remove_20 : decode cX10_remove 20 = .ok (.putfield 17, 3) := by decide +kernel
theorem dX10_remove_23 : decode cX10_remove 23 = .ok (.iload_n 1, 1) := by decide +kernel
theorem dX10_remove_24 : decode cX10_remove 24 = .ok (.istore_n 2, 1) := by decide +kernel
theorem dX10_remove_25 : decode cX10_remove 25 = .ok (.iload_n 2, 1) := by decide +kernel
theorem dX10_remove_26 : decode cX10_remove 26 = .ok (.aload_n 0, 1) := by decide +kernel
theorem dX10_remove_27 : decode cX10_remove 27 = .ok (.getfield 17, 3) := by decide +kernel
theorem dX10_remove_30 : decode cX10_remove 30 = .ok (.if_icmp .ge 23, 3) := by decide +kernel
theorem dX10_remove_33 : decode cX10_remove 33 = .ok (.aload_n 0, 1) := by decide +kernel
theorem dX10_remove_34 : decode cX10_remove 34 = .ok (.getfield 11, 3) := by decide +kernel
theorem dX10_remove_37 : decode cX10_remove 37 = .ok (.iload_n 2, 1) := by decide +kernel
theorem dX10_remove_38 : decode cX10_remove 38 = .ok (.aload_n 0, 1) := by decide +kernel
theorem dX10_remove_39 : decode cX10_remove 39 = .ok (.getfield 11, 3) := by decide +kernel
theorem dX10_remove_42 : decode cX10_remove 42 = .ok (.iload_n 2, 1) := by decide +kernel
theorem dX10_remove_43 : decode cX10_remove 43 = .ok (.iconst 1, 1) := by decide +kernel
theorem dX10_remove_44 : decode cX10_remove 44 = .ok (.iadd, 1) := by decide +kernel
theorem dX10_remove_45 : decode cX10_remove 45 = .ok (.aaload, 1) := by decide +kernel
theorem dX10_remove_46 : decode cX10_remove 46 = .ok (.aastore, 1) := by decide +kernel
theorem dX10_remove_47 : decode cX10_remove 47 = .ok (.iinc 2 1, 3) := by decide +kernel
theorem dX10_remove_50 : decode cX10_remove 50 = .ok (.goto (-25), 3) := by decide +kernel
theorem dX10_remove_53 : decode cX10_remove 53 = .ok (.aload_n 0, 1) := by decide +kernel
theorem dX10_remove_54 : decode cX10_remove 54 = .ok (.getfield 11, 3) := by decide +kernel
theorem dX10_remove_57 : decode cX10_remove 57 = .ok (.aload_n 0, 1) := by decide +kernel
theorem dX10_remove_58 : decode cX10_remove 58 = .ok (.getfield 17, 3) := by decide +kernel
theorem dX10_remove_61 : decode cX10_remove 61 = .ok (.aconst_null, 1) := by decide +kernel
theorem dX10_remove_62 : decode cX10_remove 62 = .ok (.aastore, 1) := by decide +kernel
theorem dX10_remove_63 : decode cX10_remove 63 = .ok (.return_, 1) := by decide +kernel
theorem dX10_numberPlaces_0 : decode cX10_numberPlaces 0 = .ok (.iconst 0, 1) := by decide +kernel
theorem dX10_numberPlaces_1 : decode cX10_numberPlaces 1 = .ok (.istore_n 1, 1) := by decide +kernel
theorem dX10_numberPlaces_2 : decode cX10_numberPlaces 2 = .ok (.iload_n 1, 1) := by decide +kernel
theorem dX10_numberPlaces_3 : decode cX10_numberPlaces 3 = .ok (.aload_n 0, 1) := by decide +kernel
theorem dX10_numberPlaces_4 : decode cX10_numberPlaces 4 = .ok (.getfield 17, 3) := by decide +kernel
theorem dX10_numberPlaces_7 : decode cX10_numberPlaces 7 = .ok (.if_icmp .ge 37, 3) := by decide +kernel
theorem dX10_numberPlaces_10 : decode cX10_numberPlaces 10 = .ok (.aload_n 0, 1) := by decide +kernel
theorem dX10_numberPlaces_11 : decode cX10_numberPlaces 11 = .ok (.getfield 11, 3) := by decide +kernel
theorem dX10_numberPlaces_14 : decode cX10_numberPlaces 14 = .ok (.iload_n 1, 1) := by decide +kernel
theorem dX10_numberPlaces_15 : decode cX10_numberPlaces 15 = .ok (.aaload, 1) := by decide +kernel
theorem dX10_numberPlaces_16 : decode cX10_numberPlaces 16 = .ok (.iload_n 1, 1) := by decide +kernel
theorem dX10_numberPlaces_17 : decode cX10_numberPlaces 17 = .ok (.putfield 35, 3) := by decide +kernel
theorem dX10_numberPlaces_20 : decode cX10_numberPlaces 20 = .ok (.aload_n 0, 1) := by decide +kernel
theorem dX10_numberPlaces_21 : decode cX10_numberPlaces 21 = .ok (.getfield 11, 3) := by decide +kernel
theorem dX10_numberPlaces_24 : decode cX10_numberPlaces 24 = .ok (.iload_n 1, 1) := by decide +kernel
theorem dX10_numberPlaces_25 : decode cX10_numberPlaces 25 = .ok (.aaload, 1) := by decide +kernel
theorem dX10_numberPlaces_26 : decode cX10_numberPlaces 26 = .ok (.aload_n 0, 1) := by decide +kernel
theorem dX10_numberPlaces_27 : decode cX10_numberPlaces 27 = .ok (.getfield 11, 3) := by decide +kernel
theorem dX10_numberPlaces_30 : decode cX10_numberPlaces 30 = .ok (.iload_n 1, 1) := by decide +kernel
theorem dX10_numberPlaces_31 : decode cX10_numberPlaces 31 = .ok (.aaload, 1) := by decide +kernel
theorem dX10_numberPlaces_32 : decode cX10_numberPlaces 32 = .ok (.invokevirtual 38, 3) := by decide +kernel
theorem dX10_numberPlaces_35 : decode cX10_numberPlaces 35 = .ok (.putfield 42, 3) := by decide +kernel
theorem dX10_numberPlaces_38 : decode cX10_numberPlaces 38 = .ok (.iinc 1 1, 3) := by decide +kernel
theorem dX10_numberPlaces_41 : decode cX10_numberPlaces 41 = .ok (.goto (-39), 3) := by decide +kernel
theorem dX10_numberPlaces_44 : decode cX10_numberPlaces 44 = .ok (.return_, 1) := by decide +kernel
theorem dX10_sumTimes_0 : decode cX10_sumTimes 0 = .ok (.aload_n 0, 1) := by decide +kernel
theorem dX10_sumTimes_1 : decode cX10_sumTimes 1 = .ok (.lconst 0, 1) := by decide +kernel
theorem dX10_sumTimes_2 : decode cX10_sumTimes 2 = .ok (.putfield 24, 3) := by decide +kernel
theorem dX10_sumTimes_5 : decode cX10_sumTimes 5 = .ok (.iconst 0, 1) := by decide +kernel
theorem dX10_sumTimes_6 : decode cX10_sumTimes 6 = .ok (.istore_n 1, 1) := by decide +kernel
theorem dX10_sumTimes_7 : decode cX10_sumTimes 7 = .ok (.iload_n 1, 1) := by decide +kernel
theorem dX10_sumTimes_8 : decode cX10_sumTimes 8 = .ok (.aload_n 0, 1) := by decide +kernel
theorem dX10_sumTimes_9 : decode cX10_sumTimes 9 = .ok (.getfield 17, 3) := by decide +kernel
theorem dX10_sumTimes_12 : decode cX10_sumTimes 12 = .ok (.if_icmp .ge 40, 3) := by decide +kernel
theorem dX10_sumTimes_15 : decode cX10_sumTimes 15 = .ok (.aload_n 0, 1) := by decide +kernel
theorem dX10_sumTimes_16 : decode cX10_sumTimes 16 = .ok (.getfield 11, 3) := by decide +kernel
theorem dX10_sumTimes_19 : decode cX10_sumTimes 19 = .ok (.iload_n 1, 1) := by decide +kernel
theorem dX10_sumTimes_20 : decode cX10_sumTimes 20 = .ok (.aaload, 1) := by decide +kernel
theorem dX10_sumTimes_21 : decode cX10_sumTimes 21 = .ok (.aload_n 0, 1) := by decide +kernel
theorem dX10_sumTimes_22 : decode cX10_sumTimes 22 = .ok (.getfield 24, 3) := by decide +kernel
theorem dX10_sumTimes_25 : decode cX10_sumTimes 25 = .ok (.putfield 43, 3) := by decide +kernel
theorem dX10_sumTimes_28 : decode cX10_sumTimes 28 = .ok (.aload_n 0, 1) := by decide +kernel
theorem dX10_sumTimes_29 : decode cX10_sumTimes 29 = .ok (.dup, 1) := by decide +kernel
theorem dX10_sumTimes_30 : decode cX10_sumTimes 30 = .ok (.getfield 24, 3) := by decide +kernel
theorem dX10_sumTimes_33 : decode cX10_sumTimes 33 = .ok (.aload_n 0, 1) := by decide +kernel
theorem dX10_sumTimes_34 : decode cX10_sumTimes 34 = .ok (.getfield 11, 3) := by decide +kernel
theorem dX10_sumTimes_37 : decode cX10_sumTimes 37 = .ok (.iload_n 1, 1) := by decide +kernel
theorem dX10_sumTimes_38 : decode cX10_sumTimes 38 = .ok (.aaload, 1) := by decide +kernel
theorem dX10_sumTimes_39 : decode cX10_sumTimes 39 = .ok (.getfield 42, 3) := by decide +kernel
theorem dX10_sumTimes_42 : decode cX10_sumTimes 42 = .ok (.ladd, 1) := by decide +kernel
theorem dX10_sumTimes_43 : decode cX10_sumTimes 43 = .ok (.putfield 24, 3) := by decide +kernel
theorem dX10_sumTimes_46 : decode cX10_sumTimes 46 = .ok (.iinc 1 1, 3) := by decide +kernel
theorem dX10_sumTimes_49 : decode cX10_sumTimes 49 = .ok (.goto (-42), 3) := by decide +kernel
theorem dX10_sumTimes_52 : decode cX10_sumTimes 52 = .ok (.return_, 1) := by decide +kernel
theorem dX10_nextForTie_0 : decode cX10_nextForTie 0 = .ok (.iload_n 1, 1) := by decide +kernel
theorem dX10_nextForTie_1 : decode cX10_nextForTie 1 = .ok (.istore_n 2, 1) := by decide +kernel
theorem dX10_nextForTie_2 : decode cX10_nextForTie 2 = .ok (.iload_n 2, 1) := by decide +kernel
theorem dX10_nextForTie_3 : decode cX10_nextForTie 3 = .ok (.aload_n 0, 1) := by decide +kernel
theorem dX10_nextForTie_4 : decode cX10_nextForTie 4 = .ok (.getfield 17, 3) := by decide +kernel
theorem dX10_nextForTie_7 : decode cX10_nextForTie 7 = .ok (.if_icmp .ge 28, 3) := by decide +kernel
theorem dX10_nextForTie_10 : decode cX10_nextForTie 10 = .ok (.aload_n 0, 1) := by decide +kernel
theorem dX10_nextForTie_11 : decode cX10_nextForTie 11 = .ok (.iload_n 2, 1) := by decide +kernel
theorem dX10_nextForTie_12 : decode cX10_nextForTie 12 = .ok (.invokevirtual 46, 3) := by decide +kernel
theorem dX10_nextForTie_15 : decode cX10_nextForTie 15 = .ok (.astore_n 3, 1) := by decide +kernel
theorem dX10_nextForTie_16 : decode cX10_nextForTie 16 = .ok (.aload_n 3, 1) := by decide +kernel
theorem dX10_nextForTie_17 : decode cX10_nextForTie 17 = .ok (.ifnull 12, 3) := by decide +kernel
theorem dX10_nextForTie_20 : decode cX10_nextForTie 20 = .ok (.aload_n 3, 1) := by decide +kernel
theorem dX10_nextForTie_21 : decode cX10_nextForTie 21 = .ok (.invokevirtual 50, 3) := by decide +kernel
theorem dX10_nextForTie_24 : decode cX10_nextForTie 24 = .ok (.ifCond .ne 5, 3) := by decide +kernel
theorem dX10_nextForTie_27 : decode cX10_nextForTie 27 = .ok (.aload_n 3, 1) := by decide +kernel
theorem dX10_nextForTie_28 : decode cX10_nextForTie 28 = .ok (.areturn, 1) := by decide +kernel
theorem dX10_nextForTie_29 : decode cX10_nextForTie 29 = .ok (.iinc 2 1, 3) := by decide +kernel
theorem dX10_nextForTie_32 : decode cX10_nextForTie 32 = .ok (.goto (-30), 3) := by decide +kernel
theorem dX10_nextForTie_35 : decode cX10_nextForTie 35 = .ok (.aconst_null, 1) := by decide +kernel
theorem dX10_nextForTie_36 : decode cX10_nextForTie 36 = .ok (.areturn, 1) := by decide +kernel
theorem dX10_hasEventsLike_0 : decode cX10_hasEventsLike 0 = .ok (.aload_n 0, 1) := by decide +kernel
theorem dX10_hasEventsLike_1 : decode cX10_hasEventsLike 1 = .ok (.getfield 17, 3) := by decide +kernel
theorem dX10_hasEventsLike_4 : decode cX10_hasEventsLike 4 = .ok (.aload_n 1, 1) := by decide +kernel
theorem dX10_hasEventsLike_5 : decode cX10_hasEventsLike 5 = .ok (.getfield 17, 3) := by decide +kernel
theorem dX10_hasEventsLike_8 : decode cX10_hasEventsLike 8 = .ok (.if_icmp .eq 5, 3) := by decide +kernel
theorem dX10_hasEventsLike_11 : decode cX10_hasEventsLike 11 = .ok (.iconst 0, 1) := by decide +kernel
theorem dX10_hasEventsLike_12 : decode cX10_hasEventsLike 12 = .ok (.ireturn, 1) := by decide +kernel
theorem dX10_hasEventsLike_13 : decode cX10_hasEventsLike 13 = .ok (.iconst 0, 1) := by decide +kernel
theorem dX10_hasEventsLike_14 : decode cX10_hasEventsLike 14 = .ok (.istore_n 2, 1) := by decide +kernel
theorem dX10_hasEventsLike_15 : decode cX10_hasEventsLike 15 = .ok (.iload_n 2, 1) := by decide +kernel
theorem dX10_hasEventsLike_16 : decode cX10_hasEventsLike 16 = .ok (.aload_n 0, 1) := by decide +kernel
theorem dX10_hasEventsLike_17 : decode cX10_hasEventsLike 17 = .ok (.getfield 17, 3) := by decide +kernel
theorem dX10_hasEventsLike_20 : decode cX10_hasEventsLike 20 = .ok (.if_icmp .ge 29, 3) := by decide +kernel
theorem dX10_hasEventsLike_23 : decode cX10_hasEventsLike 23 = .ok (.aload_n 0, 1) := by decide +kernel
theorem dX10_hasEventsLike_24 : decode cX10_hasEventsLike 24 = .ok (.getfield 11, 3) := by decide +kernel
theorem dX10_hasEventsLike_27 : decode cX10_hasEventsLike 27 = .ok (.iload_n 2, 1) := by decide +kernel
theorem dX10_hasEventsLike_28 : decode cX10_hasEventsLike 28 = .ok (.aaload, 1) := by decide +kernel
theorem dX10_hasEventsLike_29 : decode cX10_hasEventsLike 29 = .ok (.aload_n 1, 1) := by decide +kernel
theorem dX10_hasEventsLike_30 : decode cX10_hasEventsLike 30 = .ok (.getfield 11, 3) := by decide +kernel
theorem dX10_hasEventsLike_33 : decode cX10_hasEventsLike 33 = .ok (.iload_n 2, 1) := by decide +kernel
theorem dX10_hasEventsLike_34 : decode cX10_hasEventsLike 34 = .ok (.aaload, 1) := by decide +kernel
theorem dX10_hasEventsLike_35 : decode cX10_hasEventsLike 35 = .ok (.invokevirtual 54, 3) := by decide +kernel
theorem dX10_hasEventsLike_38 : decode cX10_hasEventsLike 38 = .ok (.ifCond .ne 5, 3) := by decide +kernel
theorem dX10_hasEventsLike_41 : decode cX10_hasEventsLike 41 = .ok (.iconst 0, 1) := by decide +kernel
theorem dX10_hasEventsLike_42 : decode cX10_hasEventsLike 42 = .ok (.ireturn, 1) := by decide +kernel
theorem dX10_hasEventsLike_43 : decode cX10_hasEventsLike 43 = .ok (.iinc 2 1, 3) := by decide +kernel
theorem dX10_hasEventsLike_46 : decode cX10_hasEventsLike 46 = .ok (.goto (-31), 3) := by decide +kernel
theorem dX10_hasEventsLike_49 : decode cX10_hasEventsLike 49 = .ok (.iconst 1, 1) := by decide +kernel
theorem dX10_hasEventsLike_50 : decode cX10_hasEventsLike 50 = .ok (.ireturn, 1) := by decide +kernel
theorem dX11_init_0 : decode cX11_init 0 = .ok (.aload_n 0, 1) := by decide +kernel
theorem dX11_init_1 : decode cX11_init 1 = .ok (.invokespecial 1, 3) := by decide +kernel
theorem dX11_init_4 : decode cX11_init 4 = .ok (.aload_n 0, 1) := by decide +kernel
theorem dX11_init_5 : decode cX11_init 5 = .ok (.bipush 6, 2) := by decide +kernel
theorem dX11_init_7 : decode cX11_init 7 = .ok (.anewarray 9, 3) := by decide +kernel
theorem dX11_init_10 : decode cX11_init 10 = .ok (.putfield 11, 3) := by decide +kernel
theorem dX11_init_13 : decode cX11_init 13 = .ok (.aload_n 0, 1) := by decide +kernel
theorem dX11_init_14 : decode cX11_init 14 = .ok (.iconst 0, 1) := by decide +kernel
theorem dX11_init_15 : decode cX11_init 15 = .ok (.putfield 15, 3) := by decide +kernel
theorem dX11_init_18 : decode cX11_init 18 = .ok (.aload_n 0, 1) := by decide +kernel
theorem dX11_init_19 : decode cX11_init 19 = .ok (.bipush 18, 2) := by decide +kernel
theorem dX11_init_21 : decode cX11_init 21 = .ok (.anewarray 19, 3) := by decide +kernel
theorem dX11_init_24 : decode cX11_init 24 = .ok (.putfield 21, 3) := by decide +kernel
theorem dX11_init_27 : decode cX11_init 27 = .ok (.aload_n 0, 1) := by decide +kernel
theorem dX11_init_28 : decode cX11_init 28 = .ok (.bipush 24, 2) := by decide +kernel
theorem dX11_init_30 : decode cX11_init 30 = .ok (.newarray .long, 2) := by decide +kernel
theorem dX11_init_32 : decode cX11_init 32 = .ok (.putfield 25, 3) := by decide +kernel
theorem dX11_init_35 : decode cX11_init 35 = .ok (.aload_n 0, 1) := by decide +kernel
theorem dX11_init_36 : decode cX11_init 36 = .ok (.iconst 0, 1) := by decide +kernel
theorem dX11_init_37 : decode cX11_init 37 = .ok (.putfield 29, 3) := by decide +kernel
theorem dX11_init_40 : decode cX11_init 40 = .ok (.aload_n 0, 1) := by decide +kernel
theorem dX11_init_41 : decode cX11_init 41 = .ok (.sipush 150, 3) := by decide +kernel
theorem dX11_init_44 : decode cX11_init 44 = .ok (.anewarray 32, 3) := by decide +kernel
theorem dX11_init_47 : decode cX11_init 47 = .ok (.putfield 34, 3) := by decide +kernel
theorem dX11_init_50 : decode cX11_init 50 = .ok (.aload_n 0, 1) := by decide +kernel
theorem dX11_init_51 : decode cX11_init 51 = .ok (.iconst 0, 1) := by decide +kernel
theorem dX11_init_52 : decode cX11_init 52 = .ok (.putfield 38, 3) := by decide +kernel
theorem dX11_init_55 : decode cX11_init 55 = .ok (.aload_n 0, 1) := by decide +kernel
theorem dX11_init_56 : decode cX11_init 56 = .ok (.bipush 20, 2) := by decide +kernel
theorem dX11_init_58 : decode cX11_init 58 = .ok (.anewarray 41, 3) := by decide +kernel
theorem dX11_init_61 : decode cX11_init 61 = .ok (.putfield 43, 3) := by decide +kernel
theorem dX11_init_64 : decode cX11_init 64 = .ok (.aload_n 0, 1) := by decide +kernel
theorem dX11_init_65 : decode cX11_init 65 = .ok (.iconst 0, 1) := by decide +kernel
theorem dX11_init_66 : decode cX11_init 66 = .ok (.putfield 47, 3) := by decide +kernel
theorem dX11_init_69 : decode cX11_init 69 = .ok (.aload_n 0, 1) := by decide +kernel
theorem dX11_init_70 : decode cX11_init 70 = .ok (.bipush 30, 2) := by decide +kernel
theorem dX11_init_72 : decode cX11_init 72 = .ok (.anewarray 50, 3) := by decide +kernel
theorem dX11_init_75 : decode cX11_init 75 = .ok (.putfield 52, 3) := by decide +kernel
theorem dX11_init_78 : decode cX11_init 78 = .ok (.aload_n 0, 1) := by decide +kernel
theorem dX11_init_79 : decode cX11_init 79 = .ok (.iconst 0, 1) := by decide +kernel
theorem dX11_init_80 : decode cX11_init 80 = .ok (.putfield 56, 3) := by decide +kernel
theorem dX11_init_83 : decode cX11_init 83 = .ok (.aload_n 0, 1) := by decide +kernel
theorem dX11_init_84 : decode cX11_init 84 = .ok (.sipush 150, 3) := by decide +kernel
theorem dX11_init_87 : decode cX11_init 87 = .ok (.newarray .int, 2) := by decide +kernel
theorem dX11_init_89 : decode cX11_init 89 = .ok (.putfield 59, 3) := by decide +kernel
theorem dX11_init_92 : decode cX11_init 92 = .ok (.aload_n 0, 1) := by decide +kernel
theorem dX11_init_93 : decode cX11_init 93 = .ok (.iconst 0, 1) := by decide +kernel
theorem dX11_init_94 : decode cX11_init 94 = .ok (.putfield 63, 3) := by decide +kernel
theorem dX11_init_97 : decode cX11_init 97 = .ok (.aload_n 0, 1) := by decide +kernel
theorem dX11_init_98 : decode cX11_init 98 = .ok (.sipush 300, 3) := by decide +kernel
theorem dX11_init_101 : decode cX11_init 101 = .ok (.newarray .int, 2) := by decide +kernel
theorem dX11_init_103 : decode cX11_init 103 = .ok (.putfield 66, 3) := by decide +kernel
theorem dX11_init_106 : decode cX11_init 106 = .ok (.aload_n 0, 1) := by decide +kernel
theorem dX11_init_107 : decode cX11_init 107 = .ok (.iconst 0, 1) := by decide +kernel
theorem dX11_init_108 : decode cX11_init 108 = .ok (.putfield 69, 3) := by decide +kernel
theorem dX11_init_111 : decode cX11_init 111 = .ok (.aload_n 0, 1) := by decide +kernel
theorem dX11_init_112 : decode cX11_init 112 = .ok (.iconst 4, 1) := by decide +kernel
theorem dX11_init_113 : decode cX11_init 113 = .ok (.anewarray 72, 3) := by decide +kernel
theorem dX11_init_116 : decode cX11_init 116 = .ok (.putfield 74, 3) := by decide +kernel
theorem dX11_init_119 : decode cX11_init 119 = .ok (.aload_n 0, 1) := by decide +kernel
theorem dX11_init_120 : decode cX11_init 120 = .ok (.iconst 4, 1) := by decide +kernel
theorem dX11_init_121 : decode cX11_init 121 = .ok (.anewarray 72, 3) := by decide +kernel
theorem dX11_init_124 : decode cX11_init 124 = .ok (.putfield 78, 3) := by decide +kernel
theorem dX11_init_127 : decode cX11_init 127 = .ok (.aload_n 0, 1) := by decide +kernel
theorem dX11_init_128 : decode cX11_init 128 = .ok (.iconst 5, 1) := by decide +kernel
theorem dX11_init_129 : decode cX11_init 129 = .ok (.newarray .int, 2) := by decide +kernel
theorem dX11_init_131 : decode cX11_init 131 = .ok (.putfield 81, 3) := by decide +kernel
theorem dX11_init_134 : decode cX11_init 134 = .ok (.aload_n 0, 1) := by decide +kernel
theorem dX11_init_135 : decode cX11_init 135 = .ok (.iconst 0, 1) := by decide +kernel
theorem dX11_init_136 : decode cX11_init 136 = .ok (.putfield 84, 3) := by decide +kernel
theorem dX11_init_139 : decode cX11_init 139 = .ok (.return_, 1) := by decide +kernel
theorem dX11_part_0 : decode cX11_part 0 = .ok (.iload_n 1, 1) := by decide +kernel
theorem dX11_part_1 : decode cX11_part 1 = .ok (.ifCond .lt 8, 3) := by decide +kernel
theorem dX11_part_4 : decode cX11_part 4 = .ok (.iload_n 1, 1) := by decide +kernel
theorem dX11_part_5 : decode cX11_part 5 = .ok (.iconst 5, 1) := by decide +kernel
theorem dX11_part_6 : decode cX11_part 6 = .ok (.if_icmp .le 10, 3) := by decide +kernel
theorem dX11_part_9 : decode cX11_part 9 = .ok (.aload_n 0, 1) := by decide +kernel
theorem dX11_part_10 : decode cX11_part 10 = .ok (.bipush (-2), 2) := by decide +kernel
theorem dX11_part_12 : decode cX11_part 12 = .ok (.invokevirtual 87, 3) := by decide +kernel
theorem dX11_part_15 : decode cX11_part 15 = .ok (.ireturn, 1) := by decide +kernel
theorem dX11_part_16 : decode cX11_part 16 = .ok (.aload_n 0, 1) := by decide +kernel
theorem dX11_part_17 : decode cX11_part 17 = .ok (.getfield 15, 3) := by decide +kernel
theorem dX11_part_20 : decode cX11_part 20 = .ok (.bipush 6, 2) := by decide +kernel
theorem dX11_part_22 : decode cX11_part 22 = .ok (.if_icmp .lt 10, 3) := by decide +kernel
theorem dX11_part_25 : decode cX11_part 25 = .ok (.aload_n 0, 1) := by decide +kernel
theorem dX11_part_26 : decode cX11_part 26 = .ok (.bipush (-4), 2) := by decide +kernel
theorem dX11_part_28 : decode cX11_part 28 = .ok (.invokevirtual 87, 3) := by decide +kernel
theorem dX11_part_31 : decode cX11_part 31 = .ok (.ireturn, 1) := by decide +kernel
theorem dX11_part_32 : decode cX11_part 32 = .ok (.iload_n 1, 1) := by decide +kernel
theorem dX11_part_33 : decode cX11_part 33 = .ok (.invokestatic 91, 3) := by decide +kernel
theorem dX11_part_36 : decode cX11_part 36 = .ok (.astore_n 2, 1) := by decide +kernel
theorem dX11_part_37 : decode cX11_part 37 = .ok (.iconst 0, 1) := by decide +kernel
theorem dX11_part_38 : decode cX11_part 38 = .ok (.istore_n 3, 1) := by decide +kernel
theorem dX11_part_39 : decode cX11_part 39 = .ok (.iload_n 3, 1) := by decide +kernel
theorem dX11_part_40 : decode cX11_part 40 = .ok (.iconst 3, 1) := by decide +kernel
theorem dX11_part_41 : decode cX11_part 41 = .ok (.if_icmp .ge 36, 3) := by decide +kernel
theorem dX11_part_44 : decode cX11_part 44 = .ok (.aload_n 0, 1) := by decide +kernel
theorem dX11_part_45 : decode cX11_part 45 = .ok (.getfield 15, 3) := by decide +kernel
theorem dX11_part_48 : decode cX11_part 48 = .ok (.iconst 3, 1) := by decide +kernel
theorem dX11_part_49 : decode cX11_part 49 = .ok (.imul, 1) := by decide +kernel
theorem dX11_part_50 : decode cX11_part 50 = .ok (.iload_n 3, 1) := by decide +kernel
theorem dX11_part_51 : decode cX11_part 51 = .ok (.iadd, 1) := by decide +kernel
theorem dX11_part_52 : decode cX11_part 52 = .ok (.istore 4, 2) := by decide +kernel
theorem dX11_part_54 : decode cX11_part 54 = .ok (.aload_n 0, 1) := by decide +kernel
theorem dX11_part_55 : decode cX11_part 55 = .ok (.getfield 21, 3) := by decide +kernel
theorem dX11_part_58 : decode cX11_part 58 = .ok (.iload 4, 2) := by decide +kernel
theorem dX11_part_60 : decode cX11_part 60 = .ok (.new 19, 3) := by decide +kernel
theorem dX11_part_63 : decode cX11_part 63 = .ok (.dup, 1) := by decide +kernel
theorem dX11_part_64 : decode cX11_part 64 = .ok (.iload 4, 2) := by decide +kernel
theorem dX11_part_66 : decode cX11_part 66 = .ok (.aload_n 2, 1) := by decide +kernel
theorem dX11_part_67 : decode cX11_part 67 = .ok (.invokespecial 95, 3) := by decide +kernel
theorem dX11_part_70 : decode cX11_part 70 = .ok (.aastore, 1) := by decide +kernel
theorem dX11_part_71 : decode cX11_part 71 = .ok (.iinc 3 1, 3) := by decide +kernel
theorem dX11_part_74 : decode cX11_part 74 = .ok (.goto (-35), 3) := by decide +kernel
theorem dX11_part_77 : decode cX11_part 77 = .ok (.aload_n 0, 1) := by decide +kernel
theorem dX11_part_78 : decode cX11_part 78 = .ok (.getfield 11, 3) := by decide +kernel
theorem dX11_part_81 : decode cX11_part 81 = .ok (.aload_n 0, 1) := by decide +kernel
theorem dX11_part_82 : decode cX11_part 82 = .ok (.getfield 15, 3) := by decide +kernel
theorem dX11_part_85 : decode cX11_part 85 = .ok (.aload_n 2, 1) := by decide +kernel
theorem dX11_part_86 : decode cX11_part 86 = .ok (.aastore, 1) := by decide +kernel
theorem dX11_part_87 : decode cX11_part 87 = .ok (.aload_n 0, 1) := by decide +kernel
theorem dX11_part_88 : decode cX11_part 88 = .ok (.dup, 1) := by decide +kernel
theorem dX11_part_89 : decode cX11_part 89 = .ok (.getfield 15, 3) := by decide +kernel
theorem dX11_part_92 : decode cX11_part 92 = .ok (.iconst 1, 1) := by decide +kernel
theorem dX11_part_93 : decode cX11_part 93 = .ok (.iadd, 1) := by decide +kernel
theorem dX11_part_94 : decode cX11_part 94 = .ok (.putfield 15, 3) := by decide +kernel
theorem dX11_part_97 : decode cX11_part 97 = .ok (.aload_n 0, 1) := by decide +kernel
theorem dX11_part_98 : decode cX11_part 98 = .ok (.aload_n 0, 1) := by decide +kernel
theorem dX11_part_99 : decode cX11_part 99 = .ok (.getfield 15, 3) := by decide +kernel
theorem dX11_part_102 : decode cX11_part 102 = .ok (.iconst 1, 1) := by decide +kernel
theorem dX11_part_103 : decode cX11_part 103 = .ok (.isub, 1) := by decide +kernel
theorem dX11_part_104 : decode cX11_part 104 = .ok (.invokevirtual 98, 3) := by decide +kernel
theorem dX11_part_107 : decode cX11_part 107 = .ok (.ireturn, 1) := by decide +kernel
theorem dX11_bar_0 : decode cX11_bar 0 = .ok (.iload_n 2, 1) := by decide +kernel
theorem dX11_bar_1 : decode cX11_bar 1 = .ok (.iconst 1, 1) := by decide +kernel
theorem dX11_bar_2 : decode cX11_bar 2 = .ok (.if_icmp .lt 21, 3) := by decide +kernel
theorem dX11_bar_5 : decode cX11_bar 5 = .ok (.iload_n 2, 1) := by decide +kernel
theorem dX11_bar_6 : decode cX11_bar 6 = .ok (.bipush 32, 2) := by decide +kernel
theorem dX11_bar_8 : decode cX11_bar 8 = .ok (.if_icmp .gt 15, 3) := by decide +kernel
theorem dX11_bar_11 : decode cX11_bar 11 = .ok (.iload_n 2, 1) := by decide +kernel
theorem dX11_bar_12 : decode cX11_bar 12 = .ok (.invokestatic 101, 3) := by decide +kernel
theorem dX11_bar_15 : decode cX11_bar 15 = .ok (.iconst 1, 1) := by decide +kernel
theorem dX11_bar_16 : decode cX11_bar 16 = .ok (.if_icmp .ne 7, 3) := by decide +kernel
theorem dX11_bar_19 : decode cX11_bar 19 = .ok (.iconst 1, 1) := by decide +kernel
theorem dX11_bar_20 : decode cX11_bar 20 = .ok (.goto 4, 3) := by decide +kernel
theorem dX11_bar_23 : decode cX11_bar 23 = .ok (.iconst 0, 1) := by decide +kernel
theorem dX11_bar_24 : decode cX11_bar 24 = .ok (.istore_n 3, 1) := by decide +kernel
theorem dX11_bar_25 : decode cX11_bar 25 = .ok (.iload_n 1, 1) := by decide +kernel
theorem dX11_bar_26 : decode cX11_bar 26 = .ok (.iconst 1, 1) := by decide +kernel
theorem dX11_bar_27 : decode cX11_bar 27 = .ok (.if_icmp .lt 13, 3) := by decide +kernel
theorem dX11_bar_30 : decode cX11_bar 30 = .ok (.iload_n 1, 1) := by decide +kernel
theorem dX11_bar_31 : decode cX11_bar 31 = .ok (.bipush 64, 2) := by decide +kernel
theorem dX11_bar_33 : decode cX11_bar 33 = .ok (.if_icmp .gt 7, 3) := by decide +kernel
theorem dX11_bar_36 : decode cX11_bar 36 = .ok (.iload_n 3, 1) := by decide +kernel
theorem dX11_bar_37 : decode cX11_bar 37 = .ok (.ifCond .ne 10, 3) := by decide +kernel
theorem dX11_bar_40 : decode cX11_bar 40 = .ok (.aload_n 0, 1) := by decide +kernel
theorem dX11_bar_41 : decode cX11_bar 41 = .ok (.bipush (-2), 2) := by decide +kernel
theorem dX11_bar_43 : decode cX11_bar 43 = .ok (.invokevirtual 87, 3) := by decide +kernel
theorem dX11_bar_46 : decode cX11_bar 46 = .ok (.ireturn, 1) := by decide +kernel
theorem dX11_bar_47 : decode cX11_bar 47 = .ok (.aload_n 0, 1) := by decide +kernel
theorem dX11_bar_48 : decode cX11_bar 48 = .ok (.getfield 29, 3) := by decide +kernel
theorem dX11_bar_51 : decode cX11_bar 51 = .ok (.bipush 24, 2) := by decide +kernel
theorem dX11_bar_53 : decode cX11_bar 53 = .ok (.if_icmp .lt 10, 3) := by decide +kernel
theorem dX11_bar_56 : decode cX11_bar 56 = .ok (.aload_n 0, 1) := by decide +kernel
theorem dX11_bar_57 : decode cX11_bar 57 = .ok (.bipush (-4), 2) := by decide +kernel
theorem dX11_bar_59 : decode cX11_bar 59 = .ok (.invokevirtual 87, 3) := by decide +kernel
theorem dX11_bar_62 : decode cX11_bar 62 = .ok (.ireturn, 1) := by decide +kernel
theorem dX11_bar_63 : decode cX11_bar 63 = .ok (.aload_n 0, 1) := by decide +kernel
theorem dX11_bar_64 : decode cX11_bar 64 = .ok (.getfield 25, 3) := by decide +kernel
theorem dX11_bar_67 : decode cX11_bar 67 = .ok (.aload_n 0, 1) := by decide +kernel
theorem dX11_bar_68 : decode cX11_bar 68 = .ok (.getfield 29, 3) := by decide +kernel
theorem dX11_bar_71 : decode cX11_bar 71 = .ok (.aload_n 0, 1) := by decide +kernel
theorem dX11_bar_72 : decode cX11_bar 72 = .ok (.aload_n 0, 1) := by decide +kernel
theorem dX11_bar_73 : decode cX11_bar 73 = .ok (.getfield 29, 3) := by decide +kernel
theorem dX11_bar_76 : decode cX11_bar 76 = .ok (.invokevirtual 106, 3) := by decide +kernel
theorem dX11_bar_79 : decode cX11_bar 79 = .ok (.iload_n 1, 1) := by decide +kernel
theorem dX11_bar_80 : decode cX11_bar 80 = .ok (.i2l, 1) := by decide +kernel
theorem dX11_bar_81 : decode cX11_bar 81 = .ok (.ldc2_w 110, 3) := by decide +kernel
theorem dX11_bar_84 : decode cX11_bar 84 = .ok (.iload_n 2, 1) := by decide +kernel
theorem dX11_bar_85 : decode cX11_bar 85 = .ok (.i2l, 1) := by decide +kernel
theorem dX11_bar_86 : decode cX11_bar 86 = .ok (.ldiv, 1) := by decide +kernel
theorem dX11_bar_87 : decode cX11_bar 87 = .ok (.lmul, 1) := by decide +kernel
theorem dX11_bar_88 : decode cX11_bar 88 = .ok (.ladd, 1) := by decide +kernel
theorem dX11_bar_89 : decode cX11_bar 89 = .ok (.lastore, 1) := by decide +kernel
theorem dX11_bar_90 : decode cX11_bar 90 = .ok (.aload_n 0, 1) := by decide +kernel
theorem dX11_bar_91 : decode cX11_bar 91 = .ok (.dup, 1) := by decide +kernel
theorem dX11_bar_92 : decode cX11_bar 92 = .ok (.getfield 29, 3) := by decide +kernel
theorem dX11_bar_95 : decode cX11_bar 95 = .ok (.iconst 1, 1) := by decide +kernel
theorem dX11_bar_96 : decode cX11_bar 96 = .ok (.iadd, 1) := by decide +kernel
theorem dX11_bar_97 : decode cX11_bar 97 = .ok (.putfield 29, 3) := by decide +kernel
theorem dX11_bar_100 : decode cX11_bar 100 = .ok (.aload_n 0, 1) := by decide +kernel
theorem dX11_bar_101 : decode cX11_bar 101 = .ok (.aload_n 0, 1) := by decide +kernel
theorem dX11_bar_102 : decode cX11_bar 102 = .ok (.getfield 29, 3) := by decide +kernel
theorem dX11_bar_105 : decode cX11_bar 105 = .ok (.iconst 1, 1) := by decide +kernel
theorem dX11_bar_106 : decode cX11_bar 106 = .ok (.isub, 1) := by decide +kernel
theorem dX11_bar_107 : decode cX11_bar 107 = .ok (.invokevirtual 98, 3) := by decide +kernel
theorem dX11_bar_110 : decode cX11_bar 110 = .ok (.ireturn, 1) := by decide +kernel
theorem dX11_put_0 : decode cX11_put 0 = .ok (.aload_n 0, 1) := by decide +kernel
theorem dX11_put_1 : decode cX11_put 1 = .ok (.iload_n 1, 1) := by decide +kernel
theorem dX11_put_2 : decode cX11_put 2 = .ok (.invokevirtual 112, 3) := by decide +kernel
theorem dX11_put_5 : decode cX11_put 5 = .ok (.astore 7, 2) := by decide +kernel
theorem dX11_put_7 : decode cX11_put 7 = .ok (.aload 7, 2) := by decide +kernel
theorem dX11_put_9 : decode cX11_put 9 = .ok (.ifnull 25, 3) := by decide +kernel
theorem dX11_put_12 : decode cX11_put 12 = .ok (.iload_n 2, 1) := by decide +kernel
theorem dX11_put_13 : decode cX11_put 13 = .ok (.ifCond .lt 21, 3) := by decide +kernel
theorem dX11_put_16 : decode cX11_put 16 = .ok (.iload_n 2, 1) := by decide +kernel
theorem dX11_put_17 : decode cX11_put 17 = .ok (.aload 7, 2) := by decide +kernel
theorem dX11_put_19 : decode cX11_put 19 = .ok (.getfield 116, 3) := by decide +kernel
theorem dX11_put_22 : decode cX11_put 22 = .ok (.if_icmp .gt 12, 3) := by decide +kernel
theorem dX11_put_25 : decode cX11_put 25 = .ok (.iload_n 3, 1) := by decide +kernel
theorem dX11_put_26 : decode cX11_put 26 = .ok (.ifCond .lt 8, 3) := by decide +kernel
theorem dX11_put_29 : decode cX11_put 29 = .ok (.iload_n 3, 1) := by decide +kernel
theorem dX11_put_30 : decode cX11_put 30 = .ok (.iconst 4, 1) := by decide +kernel
theorem dX11_put_31 : decode cX11_put 31 = .ok (.if_icmp .le 10, 3) := by decide +kernel
theorem dX11_put_34 : decode cX11_put 34 = .ok (.aload_n 0, 1) := by decide +kernel
theorem dX11_put_35 : decode cX11_put 35 = .ok (.bipush (-2), 2) := by decide +kernel
theorem dX11_put_37 : decode cX11_put 37 = .ok (.invokevirtual 87, 3) := by decide +kernel
theorem dX11_put_40 : decode cX11_put 40 = .ok (.ireturn, 1) := by decide +kernel
theorem dX11_put_41 : decode cX11_put 41 = .ok (.iload_n 3, 1) := by decide +kernel
theorem dX11_put_42 : decode cX11_put 42 = .ok (.invokestatic 119, 3) := by decide +kernel
theorem dX11_put_45 : decode cX11_put 45 = .ok (.ifCond .eq 12, 3) := by decide +kernel
theorem dX11_put_48 : decode cX11_put 48 = .ok (.iload 4, 2) := by decide +kernel
theorem dX11_put_50 : decode cX11_put 50 = .ok (.i2l, 1) := by decide +kernel
theorem dX11_put_51 : decode cX11_put 51 = .ok (.invokestatic 123, 3) := by decide +kernel
theorem dX11_put_54 : decode cX11_put 54 = .ok (.ifCond .eq 19, 3) := by decide +kernel
theorem dX11_put_57 : decode cX11_put 57 = .ok (.iload 5, 2) := by decide +kernel
theorem dX11_put_59 : decode cX11_put 59 = .ok (.invokestatic 127, 3) := by decide +kernel
theorem dX11_put_62 : decode cX11_put 62 = .ok (.ifCond .eq 11, 3) := by decide +kernel
theorem dX11_put_65 : decode cX11_put 65 = .ok (.iload 6, 2) := by decide +kernel
theorem dX11_put_67 : decode cX11_put 67 = .ok (.invokestatic 130, 3) := by decide +kernel
theorem dX11_put_70 : decode cX11_put 70 = .ok (.ifCond .ne 10, 3) := by decide +kernel
theorem dX11_put_73 : decode cX11_put 73 = .ok (.aload_n 0, 1) := by decide +kernel
theorem dX11_put_74 : decode cX11_put 74 = .ok (.bipush (-2), 2) := by decide +kernel
theorem dX11_put_76 : decode cX11_put 76 = .ok (.invokevirtual 87, 3) := by decide +kernel
theorem dX11_put_79 : decode cX11_put 79 = .ok (.ireturn, 1) := by decide +kernel
theorem dX11_put_80 : decode cX11_put 80 = .ok (.aload_n 0, 1) := by decide +kernel
theorem dX11_put_81 : decode cX11_put 81 = .ok (.getfield 38, 3) := by decide +kernel
theorem dX11_put_84 : decode cX11_put 84 = .ok (.sipush 150, 3) := by decide +kernel
theorem dX11_put_87 : decode cX11_put 87 = .ok (.if_icmp .ge 13, 3) := by decide +kernel
theorem dX11_put_90 : decode cX11_put 90 = .ok (.aload 7, 2) := by decide +kernel
theorem dX11_put_92 : decode cX11_put 92 = .ok (.getfield 116, 3) := by decide +kernel
theorem dX11_put_95 : decode cX11_put 95 = .ok (.bipush 40, 2) := by decide +kernel
theorem dX11_put_97 : decode cX11_put 97 = .ok (.if_icmp .lt 10, 3) := by decide +kernel
theorem dX11_put_100 : decode cX11_put 100 = .ok (.aload_n 0, 1) := by decide +kernel
theorem dX11_put_101 : decode cX11_put 101 = .ok (.bipush (-4), 2) := by decide +kernel
theorem dX11_put_103 : decode cX11_put 103 = .ok (.invokevirtual 87, 3) := by decide +kernel
theorem dX11_put_106 : decode cX11_put 106 = .ok (.ireturn, 1) := by decide +kernel
theorem dX11_put_107 : decode cX11_put 107 = .ok (.new 32, 3) := by decide +kernel
theorem dX11_put_110 : decode cX11_put 110 = .ok (.dup, 1) := by decide +kernel
theorem dX11_put_111 : decode cX11_put 111 = .ok (.aload_n 0, 1) := by decide +kernel
theorem dX11_put_112 : decode cX11_put 112 = .ok (.getfield 38, 3) := by decide +kernel
theorem dX11_put_115 : decode cX11_put 115 = .ok (.aload 7, 2) := by decide +kernel
theorem dX11_put_117 : decode cX11_put 117 = .ok (.iload_n 3, 1) := by decide +kernel
theorem dX11_put_118 : decode cX11_put 118 = .ok (.iload 4, 2) := by decide +kernel
theorem dX11_put_120 : decode cX11_put 120 = .ok (.iload 5, 2) := by decide +kernel
theorem dX11_put_122 : decode cX11_put 122 = .ok (.iload 6, 2) := by decide +kernel
theorem dX11_put_124 : decode cX11_put 124 = .ok (.invokespecial 133, 3) := by decide +kernel
theorem dX11_put_127 : decode cX11_put 127 = .ok (.astore 8, 2) := by decide +kernel
theorem dX11_put_129 : decode cX11_put 129 = .ok (.aload_n 0, 1) := by decide +kernel
theorem dX11_put_130 : decode cX11_put 130 = .ok (.getfield 34, 3) := by decide +kernel
theorem dX11_put_133 : decode cX11_put 133 = .ok (.aload_n 0, 1) := by decide +kernel
theorem dX11_put_134 : decode cX11_put 134 = .ok (.getfield 38, 3) := by decide +kernel
theorem dX11_put_137 : decode cX11_put 137 = .ok (.aload 8, 2) := by decide +kernel
theorem dX11_put_139 : decode cX11_put 139 = .ok (.aastore, 1) := by decide +kernel
theorem dX11_put_140 : decode cX11_put 140 = .ok (.aload_n 0, 1) := by decide +kernel
theorem dX11_put_141 : decode cX11_put 141 = .ok (.dup, 1) := by decide +kernel
theorem dX11_put_142 : decode cX11_put 142 = .ok (.getfield 38, 3) := by decide +kernel
theorem dX11_put_145 : decode cX11_put 145 = .ok (.iconst 1, 1) := by decide +kernel
theorem dX11_put_146 : decode cX11_put 146 = .ok (.iadd, 1) := by decide +kernel
theorem dX11_put_147 : decode cX11_put 147 = .ok (.putfield 38, 3) := by decide +kernel
theorem dX11_put_150 : decode cX11_put 150 = .ok (.aload 7, 2) := by decide +kernel
theorem dX11_put_152 : decode cX11_put 152 = .ok (.iload_n 2, 1) := by decide +kernel
theorem dX11_put_153 : decode cX11_put 153 = .ok (.aload 8, 2) := by decide +kernel
theorem dX11_put_155 : decode cX11_put 155 = .ok (.invokevirtual 136, 3) := by decide +kernel
theorem dX11_put_158 : decode cX11_put 158 = .ok (.iconst 0, 1) := by decide +kernel
theorem dX11_put_159 : decode cX11_put 159 = .ok (.istore 9, 2) := by decide +kernel
theorem dX11_put_161 : decode cX11_put 161 = .ok (.iload 9, 2) := by decide +kernel
theorem dX11_put_163 : decode cX11_put 163 = .ok (.aload_n 0, 1) := by decide +kernel
theorem dX11_put_164 : decode cX11_put 164 = .ok (.getfield 47, 3) := by decide +kernel
theorem dX11_put_167 : decode cX11_put 167 = .ok (.if_icmp .ge 39, 3) := by decide +kernel
theorem dX11_put_170 : decode cX11_put 170 = .ok (.aload_n 0, 1) := by decide +kernel
theorem dX11_put_171 : decode cX11_put 171 = .ok (.getfield 43, 3) := by decide +kernel
theorem dX11_put_174 : decode cX11_put 174 = .ok (.iload 9, 2) := by decide +kernel
theorem dX11_put_176 : decode cX11_put 176 = .ok (.aaload, 1) := by decide +kernel
theorem dX11_put_177 : decode cX11_put 177 = .ok (.astore 10, 2) := by decide +kernel
theorem dX11_put_179 : decode cX11_put 179 = .ok (.aload 10, 2) := by decide +kernel
theorem dX11_put_181 : decode cX11_put 181 = .ok (.ifnull 19, 3) := by decide +kernel
theorem dX11_put_184 : decode cX11_put 184 = .ok (.aload 10, 2) := by decide +kernel
theorem dX11_put_186 : decode cX11_put 186 = .ok (.getfield 140, 3) := by decide +kernel
theorem dX11_put_189 : decode cX11_put 189 = .ok (.aload 7, 2) := by decide +kernel
theorem dX11_put_191 : decode cX11_put 191 = .ok (.if_acmp .ne 9, 3) := by decide +kernel
theorem dX11_put_194 : decode cX11_put 194 = .ok (.aload 10, 2) := by decide +kernel
theorem dX11_put_196 : decode cX11_put 196 = .ok (.iload_n 2, 1) := by decide +kernel
theorem dX11_put_197 : decode cX11_put 197 = .ok (.invokevirtual 144, 3) := by decide +kernel
theorem dX11_put_200 : decode cX11_put 200 = .ok (.iinc 9 1, 3) := by decide +kernel
theorem dX11_put_203 : decode cX11_put 203 = .ok (.goto (-42), 3) := by decide +kernel
theorem dX11_put_206 : decode cX11_put 206 = .ok (.aload_n 0, 1) := by decide +kernel
theorem dX11_put_207 : decode cX11_put 207 = .ok (.aload 7, 2) := by decide +kernel
theorem dX11_put_209 : decode cX11_put 209 = .ok (.invokevirtual 148, 3) := by decide +kernel
theorem dX11_put_212 : decode cX11_put 212 = .ok (.aload_n 0, 1) := by decide +kernel
theorem dX11_put_213 : decode cX11_put 213 = .ok (.aload 8, 2) := by decide +kernel
theorem dX11_put_215 : decode cX11_put 215 = .ok (.getfield 152, 3) := by decide +kernel
theorem dX11_put_218 : decode cX11_put 218 = .ok (.invokevirtual 98, 3) := by decide +kernel
theorem dX11_put_221 : decode cX11_put 221 = .ok (.ireturn, 1) := by decide +kernel
theorem dX11_drop_0 : decode cX11_drop 0 = .ok (.aload_n 0, 1) := by decide +kernel
theorem dX11_drop_1 : decode cX11_drop 1 = .ok (.iload_n 1, 1) := by decide +kernel
theorem dX11_drop_2 : decode cX11_drop 2 = .ok (.invokevirtual 155, 3) := by decide +kernel
theorem dX11_drop_5 : decode cX11_drop 5 = .ok (.astore_n 2, 1) := by decide +kernel
theorem dX11_drop_6 : decode cX11_drop 6 = .ok (.aload_n 2, 1) := by decide +kernel
theorem dX11_drop_7 : decode cX11_drop 7 = .ok (.ifnonnull 10, 3) := by decide +kernel
theorem dX11_drop_10 : decode cX11_drop 10 = .ok (.aload_n 0, 1) := by decide +kernel
theorem dX11_drop_11 : decode cX11_drop 11 = .ok (.bipush (-2), 2) := by decide +kernel
theorem dX11_drop_13 : decode cX11_drop 13 = .ok (.invokevirtual 87, 3) := by decide +kernel
theorem dX11_drop_16 : decode cX11_drop 16 = .ok (.ireturn, 1) := by decide +kernel
theorem dX11_drop_17 : decode cX11_drop 17 = .ok (.aload_n 2, 1) := by decide +kernel
theorem dX11_drop_18 : decode cX11_drop 18 = .ok (.getfield 159, 3) := by decide +kernel
theorem dX11_drop_21 : decode cX11_drop 21 = .ok (.istore_n 3, 1) := by decide +kernel
theorem dX11_drop_22 : decode cX11_drop 22 = .ok (.aload_n 2, 1) := by decide +kernel
theorem dX11_drop_23 : decode cX11_drop 23 = .ok (.getfield 162, 3) := by decide +kernel
theorem dX11_drop_26 : decode cX11_drop 26 = .ok (.iload_n 3, 1) := by decide +kernel
theorem dX11_drop_27 : decode cX11_drop 27 = .ok (.invokevirtual 163, 3) := by decide +kernel
theorem dX11_drop_30 : decode cX11_drop 30 = .ok (.aload_n 0, 1) := by decide +kernel
theorem dX11_drop_31 : decode cX11_drop 31 = .ok (.getfield 34, 3) := by decide +kernel
theorem dX11_drop_34 : decode cX11_drop 34 = .ok (.iload_n 1, 1) := by decide +kernel
theorem dX11_drop_35 : decode cX11_drop 35 = .ok (.aconst_null, 1) := by decide +kernel
theorem dX11_drop_36 : decode cX11_drop 36 = .ok (.aastore, 1) := by decide +kernel
theorem dX11_drop_37 : decode cX11_drop 37 = .ok (.aload_n 0, 1) := by decide +kernel
theorem dX11_drop_38 : decode cX11_drop 38 = .ok (.aload_n 2, 1) := by decide +kernel
theorem dX11_drop_39 : decode cX11_drop 39 = .ok (.getfield 162, 3) := by decide +kernel
theorem dX11_drop_42 : decode cX11_drop 42 = .ok (.iload_n 3, 1) := by decide +kernel
theorem dX11_drop_43 : decode cX11_drop 43 = .ok (.invokevirtual 166, 3) := by decide +kernel
theorem dX11_drop_46 : decode cX11_drop 46 = .ok (.aload_n 0, 1) := by decide +kernel
theorem dX11_drop_47 : decode cX11_drop 47 = .ok (.aload_n 2, 1) := by decide +kernel
theorem dX11_drop_48 : decode cX11_drop 48 = .ok (.invokevirtual 170, 3) := by decide +kernel
theorem dX11_drop_51 : decode cX11_drop 51 = .ok (.aload_n 0, 1) := by decide +kernel
theorem dX11_drop_52 : decode cX11_drop 52 = .ok (.iload_n 1, 1) := by decide +kernel
theorem dX11_drop_53 : decode cX11_drop 53 = .ok (.invokevirtual 174, 3) := by decide +kernel
theorem dX11_drop_56 : decode cX11_drop 56 = .ok (.aload_n 0, 1) := by decide +kernel
theorem dX11_drop_57 : decode cX11_drop 57 = .ok (.aload_n 2, 1) := by decide +kernel
theorem dX11_drop_58 : decode cX11_drop 58 = .ok (.getfield 162, 3) := by decide +kernel
theorem dX11_drop_61 : decode cX11_drop 61 = .ok (.invokevirtual 148, 3) := by decide +kernel
theorem dX11_drop_64 : decode cX11_drop 64 = .ok (.aload_n 0, 1) := by decide +kernel
theorem dX11_drop_65 : decode cX11_drop 65 = .ok (.iload_n 3, 1) := by decide +kernel
theorem dX11_drop_66 : decode cX11_drop 66 = .ok (.invokevirtual 98, 3) := by decide +kernel
theorem dX11_drop_69 : decode cX11_drop 69 = .ok (.ireturn, 1) := by decide +kernel
theorem dX11_chord_0 : decode cX11_chord 0 = .ok (.aload_n 0, 1) := by decide +kernel
theorem dX11_chord_1 : decode cX11_chord 1 = .ok (.iload_n 1, 1) := by decide +kernel
theorem dX11_chord_2 : decode cX11_chord 2 = .ok (.invokevirtual 155, 3) := by decide +kernel
theorem dX11_chord_5 : decode cX11_chord 5 = .ok (.astore_n 3, 1) := by decide +kernel
theorem dX11_chord_6 : decode cX11_chord 6 = .ok (.aload_n 3, 1) := by decide +kernel
theorem dX11_chord_7 : decode cX11_chord 7 = .ok (.ifnull 11, 3) := by decide +kernel
theorem dX11_chord_10 : decode cX11_chord 10 = .ok (.iload_n 2, 1) := by decide +kernel
theorem dX11_chord_11 : decode cX11_chord 11 = .ok (.i2l, 1) := by decide +kernel
theorem dX11_chord_12 : decode cX11_chord 12 = .ok (.invokestatic 123, 3) := by decide +kernel
theorem dX11_chord_15 : decode cX11_chord 15 = .ok (.ifCond .ne 10, 3) := by decide +kernel
theorem dX11_chord_18 : decode cX11_chord 18 = .ok (.aload_n 0, 1) := by decide +kernel
theorem dX11_chord_19 : decode cX11_chord 19 = .ok (.bipush (-2), 2) := by decide +kernel
theorem dX11_chord_21 : decode cX11_chord 21 = .ok (.invokevirtual 87, 3) := by decide +kernel
theorem dX11_chord_24 : decode cX11_chord 24 = .ok (.ireturn, 1) := by decide +kernel
theorem dX11_chord_25 : decode cX11_chord 25 = .ok (.aload_n 3, 1) := by decide +kernel
theorem dX11_chord_26 : decode cX11_chord 26 = .ok (.getfield 177, 3) := by decide +kernel
theorem dX11_chord_29 : decode cX11_chord 29 = .ok (.iconst 1, 1) := by decide +kernel
theorem dX11_chord_30 : decode cX11_chord 30 = .ok (.if_icmp .eq 10, 3) := by decide +kernel
theorem dX11_chord_33 : decode cX11_chord 33 = .ok (.aload_n 0, 1) := by decide +kernel
theorem dX11_chord_34 : decode cX11_chord 34 = .ok (.bipush (-13), 2) := by decide +kernel
theorem dX11_chord_36 : decode cX11_chord 36 = .ok (.invokevirtual 180, 3) := by decide +kernel
theorem dX11_chord_39 : decode cX11_chord 39 = .ok (.ireturn, 1) := by decide +kernel
theorem dX11_chord_40 : decode cX11_chord 40 = .ok (.iload_n 2, 1) := by decide +kernel
theorem dX11_chord_41 : decode cX11_chord 41 = .ok (.aload_n 3, 1) := by decide +kernel
theorem dX11_chord_42 : decode cX11_chord 42 = .ok (.invokevirtual 183, 3) := by decide +kernel
theorem dX11_chord_45 : decode cX11_chord 45 = .ok (.if_icmp .gt 10, 3) := by decide +kernel
theorem dX11_chord_48 : decode cX11_chord 48 = .ok (.aload_n 0, 1) := by decide +kernel
theorem dX11_chord_49 : decode cX11_chord 49 = .ok (.bipush (-3), 2) := by decide +kernel
theorem dX11_chord_51 : decode cX11_chord 51 = .ok (.invokevirtual 87, 3) := by decide +kernel
theorem dX11_chord_54 : decode cX11_chord 54 = .ok (.ireturn, 1) := by decide +kernel
theorem dX11_chord_55 : decode cX11_chord 55 = .ok (.aload_n 3, 1) := by decide +kernel
theorem dX11_chord_56 : decode cX11_chord 56 = .ok (.iload_n 2, 1) := by decide +kernel
theorem dX11_chord_57 : decode cX11_chord 57 = .ok (.invokevirtual 187, 3) := by decide +kernel
theorem dX11_chord_60 : decode cX11_chord 60 = .ok (.ifCond .ne 10, 3) := by decide +kernel
theorem dX11_chord_63 : decode cX11_chord 63 = .ok (.aload_n 0, 1) := by decide +kernel
theorem dX11_chord_64 : decode cX11_chord 64 = .ok (.bipush (-4), 2) := by decide +kernel
theorem dX11_chord_66 : decode cX11_chord 66 = .ok (.invokevirtual 87, 3) := by decide +kernel
theorem dX11_chord_69 : decode cX11_chord 69 = .ok (.ireturn, 1) := by decide +kernel
theorem dX11_chord_70 : decode cX11_chord 70 = .ok (.aload_n 0, 1) := by decide +kernel
theorem dX11_chord_71 : decode cX11_chord 71 = .ok (.aload_n 3, 1) := by decide +kernel
theorem dX11_chord_72 : decode cX11_chord 72 = .ok (.getfield 190, 3) := by decide +kernel
theorem dX11_chord_75 : decode cX11_chord 75 = .ok (.invokevirtual 98, 3) := by decide +kernel
theorem dX11_chord_78 : decode cX11_chord 78 = .ok (.ireturn, 1) := by decide +kernel
theorem dX11_pitch_0 : decode cX11_pitch 0 = .ok (.aload_n 0, 1) := by decide +kernel
theorem dX11_pitch_1 : decode cX11_pitch 1 = .ok (.iload_n 1, 1) := by decide +kernel
theorem dX11_pitch_2 : decode cX11_pitch 2 = .ok (.invokevirtual 155, 3) := by decide +kernel
theorem dX11_pitch_5 : decode cX11_pitch 5 = .ok (.astore_n 3, 1) := by decide +kernel
theorem dX11_pitch_6 : decode cX11_pitch 6 = .ok (.aload_n 3, 1) := by decide +kernel
theorem dX11_pitch_7 : decode cX11_pitch 7 = .ok (.ifnonnull 10, 3) := by decide +kernel
theorem dX11_pitch_10 : decode cX11_pitch 10 = .ok (.aload_n 0, 1) := by decide +kernel
theorem dX11_pitch_11 : decode cX11_pitch 11 = .ok (.bipush (-2), 2) := by decide +kernel
theorem dX11_pitch_13 : decode cX11_pitch 13 = .ok (.invokevirtual 87, 3) := by decide +kernel
theorem dX11_pitch_16 : decode cX11_pitch 16 = .ok (.ireturn, 1) := by decide +kernel
theorem dX11_pitch_17 : decode cX11_pitch 17 = .ok (.aload_n 3, 1) := by decide +kernel
theorem dX11_pitch_18 : decode cX11_pitch 18 = .ok (.invokevirtual 193, 3) := by decide +kernel
theorem dX11_pitch_21 : decode cX11_pitch 21 = .ok (.ifCond .ne 10, 3) := by decide +kernel
theorem dX11_pitch_24 : decode cX11_pitch 24 = .ok (.aload_n 0, 1) := by decide +kernel
theorem dX11_pitch_25 : decode cX11_pitch 25 = .ok (.bipush (-13), 2) := by decide +kernel
theorem dX11_pitch_27 : decode cX11_pitch 27 = .ok (.invokevirtual 180, 3) := by decide +kernel
theorem dX11_pitch_30 : decode cX11_pitch 30 = .ok (.ireturn, 1) := by decide +kernel
theorem dX11_pitch_31 : decode cX11_pitch 31 = .ok (.aload_n 0, 1) := by decide +kernel
theorem dX11_pitch_32 : decode cX11_pitch 32 = .ok (.aload_n 3, 1) := by decide +kernel
theorem dX11_pitch_33 : decode cX11_pitch 33 = .ok (.iload_n 2, 1) := by decide +kernel
theorem dX11_pitch_34 : decode cX11_pitch 34 = .ok (.invokevirtual 197, 3) := by decide +kernel
theorem dX11_pitch_37 : decode cX11_pitch 37 = .ok (.ifCond .eq 12, 3) := by decide +kernel
theorem dX11_pitch_40 : decode cX11_pitch 40 = .ok (.aload_n 3, 1) := by decide +kernel
theorem dX11_pitch_41 : decode cX11_pitch 41 = .ok (.getfield 200, 3) := by decide +kernel
theorem dX11_pitch_44 : decode cX11_pitch 44 = .ok (.iload_n 2, 1) := by decide +kernel
theorem dX11_pitch_45 : decode cX11_pitch 45 = .ok (.iaload, 1) := by decide +kernel
theorem dX11_pitch_46 : decode cX11_pitch 46 = .ok (.goto 4, 3) := by decide +kernel
theorem dX11_pitch_49 : decode cX11_pitch 49 = .ok (.iconst (-1), 1) := by decide +kernel
theorem dX11_pitch_50 : decode cX11_pitch 50 = .ok (.invokevirtual 98, 3) := by decide +kernel
theorem dX11_pitch_53 : decode cX11_pitch 53 = .ok (.ireturn, 1) := by decide +kernel
theorem dX11_heard_0 : decode cX11_heard 0 = .ok (.aload_n 0, 1) := by decide +kernel
theorem dX11_heard_1 : decode cX11_heard 1 = .ok (.iload_n 1, 1) := by decide +kernel
theorem dX11_heard_2 : decode cX11_heard 2 = .ok (.invokevirtual 155, 3) := by decide +kernel
theorem dX11_heard_5 : decode cX11_heard 5 = .ok (.astore_n 3, 1) := by decide +kernel
theorem dX11_heard_6 : decode cX11_heard 6 = .ok (.aload_n 3, 1) := by decide +kernel
theorem dX11_heard_7 : decode cX11_heard 7 = .ok (.ifnonnull 13, 3) := by decide +kernel
theorem dX11_heard_10 : decode cX11_heard 10 = .ok (.aload_n 0, 1) := by decide +kernel
theorem dX11_heard_11 : decode cX11_heard 11 = .ok (.bipush (-2), 2) := by decide +kernel
theorem dX11_heard_13 : decode cX11_heard 13 = .ok (.sipush (-2000), 3) := by decide +kernel
theorem dX11_heard_16 : decode cX11_heard 16 = .ok (.invokevirtual 203, 3) := by decide +kernel
theorem dX11_heard_19 : decode cX11_heard 19 = .ok (.ireturn, 1) := by decide +kernel
theorem dX11_heard_20 : decode cX11_heard 20 = .ok (.aload_n 3, 1) := by decide +kernel
theorem dX11_heard_21 : decode cX11_heard 21 = .ok (.invokevirtual 193, 3) := by decide +kernel
theorem dX11_heard_24 : decode cX11_heard 24 = .ok (.ifCond .ne 13, 3) := by decide +kernel
theorem dX11_heard_27 : decode cX11_heard 27 = .ok (.aload_n 0, 1) := by decide +kernel
theorem dX11_heard_28 : decode cX11_heard 28 = .ok (.bipush (-13), 2) := by decide +kernel
theorem dX11_heard_30 : decode cX11_heard 30 = .ok (.sipush (-2001), 3) := by decide +kernel
theorem dX11_heard_33 : decode cX11_heard 33 = .ok (.invokevirtual 207, 3) := by decide +kernel
theorem dX11_heard_36 : decode cX11_heard 36 = .ok (.ireturn, 1) := by decide +kernel
theorem dX11_heard_37 : decode cX11_heard 37 = .ok (.aload_n 3, 1) := by decide +kernel
theorem dX11_heard_38 : decode cX11_heard 38 = .ok (.iload_n 2, 1) := by decide +kernel
theorem dX11_heard_39 : decode cX11_heard 39 = .ok (.invokevirtual 197, 3) := by decide +kernel
theorem dX11_heard_42 : decode cX11_heard 42 = .ok (.ifCond .ne 11, 3) := by decide +kernel
theorem dX11_heard_45 : decode cX11_heard 45 = .ok (.aload_n 0, 1) := by decide +kernel
theorem dX11_heard_46 : decode cX11_heard 46 = .ok (.sipush (-1000), 3) := by decide +kernel
theorem dX11_heard_49 : decode cX11_heard 49 = .ok (.invokevirtual 98, 3) := by decide +kernel
theorem dX11_heard_52 : decode cX11_heard 52 = .ok (.ireturn, 1) := by decide +kernel
theorem dX11_heard_53 : decode cX11_heard 53 = .ok (.aload_n 0, 1) := by decide +kernel
theorem dX11_heard_54 : decode cX11_heard 54 = .ok (.aload_n 3, 1) := by decide +kernel
theorem dX11_heard_55 : decode cX11_heard 55 = .ok (.getfield 162, 3) := by decide +kernel
theorem dX11_heard_58 : decode cX11_heard 58 = .ok (.getfield 210, 3) := by decide +kernel
theorem dX11_heard_61 : decode cX11_heard 61 = .ok (.aload_n 3, 1) := by decide +kernel
theorem dX11_heard_62 : decode cX11_heard 62 = .ok (.getfield 200, 3) := by decide +kernel
theorem dX11_heard_65 : decode cX11_heard 65 = .ok (.iload_n 2, 1) := by decide +kernel
theorem dX11_heard_66 : decode cX11_heard 66 = .ok (.iaload, 1) := by decide +kernel
theorem dX11_heard_67 : decode cX11_heard 67 = .ok (.invokevirtual 214, 3) := by decide +kernel
theorem dX11_heard_70 : decode cX11_heard 70 = .ok (.aload_n 0, 1) := by decide +kernel
theorem dX11_heard_71 : decode cX11_heard 71 = .ok (.aload_n 3, 1) := by decide +kernel
theorem dX11_heard_72 : decode cX11_heard 72 = .ok (.invokevirtual 217, 3) := by decide +kernel
theorem dX11_heard_75 : decode cX11_heard 75 = .ok (.iadd, 1) := by decide +kernel
theorem dX11_heard_76 : decode cX11_heard 76 = .ok (.invokevirtual 98, 3) := by decide +kernel
theorem dX11_heard_79 : decode cX11_heard 79 = .ok (.ireturn, 1) := by decide +kernel
theorem dX11_shift_0 : decode cX11_shift 0 = .ok (.aload_n 0, 1) := by decide +kernel
theorem dX11_shift_1 : decode cX11_shift 1 = .ok (.iload_n 1, 1) := by decide +kernel
theorem dX11_shift_2 : decode cX11_shift 2 = .ok (.invokevirtual 155, 3) := by decide +kernel
theorem dX11_shift_5 : decode cX11_shift 5 = .ok (.astore_n 3, 1) := by decide +kernel
theorem dX11_shift_6 : decode cX11_shift 6 = .ok (.aload_n 3, 1) := by decide +kernel
theorem dX11_shift_7 : decode cX11_shift 7 = .ok (.ifnonnull 10, 3) := by decide +kernel
theorem dX11_shift_10 : decode cX11_shift 10 = .ok (.aload_n 0, 1) := by decide +kernel
theorem dX11_shift_11 : decode cX11_shift 11 = .ok (.bipush (-2), 2) := by decide +kernel
theorem dX11_shift_13 : decode cX11_shift 13 = .ok (.invokevirtual 87, 3) := by decide +kernel
theorem dX11_shift_16 : decode cX11_shift 16 = .ok (.ireturn, 1) := by decide +kernel
theorem dX11_shift_17 : decode cX11_shift 17 = .ok (.aload_n 3, 1) := by decide +kernel
theorem dX11_shift_18 : decode cX11_shift 18 = .ok (.invokevirtual 193, 3) := by decide +kernel
theorem dX11_shift_21 : decode cX11_shift 21 = .ok (.ifCond .ne 10, 3) := by decide +kernel
theorem dX11_shift_24 : decode cX11_shift 24 = .ok (.aload_n 0, 1) := by decide +kernel
theorem dX11_shift_25 : decode cX11_shift 25 = .ok (.bipush (-13), 2) := by decide +kernel
theorem dX11_shift_27 : decode cX11_shift 27 = .ok (.invokevirtual 180, 3) := by decide +kernel
theorem dX11_shift_30 : decode cX11_shift 30 = .ok (.ireturn, 1) := by decide +kernel
theorem dX11_shift_31 : decode cX11_shift 31 = .ok (.aload_n 3, 1) := by decide +kernel
theorem dX11_shift_32 : decode cX11_shift 32 = .ok (.iload_n 2, 1) := by decide +kernel
theorem dX11_shift_33 : decode cX11_shift 33 = .ok (.i2l, 1) := by decide +kernel
theorem dX11_shift_34 : decode cX11_shift 34 = .ok (.invokevirtual 221, 3) := by decide +kernel
theorem dX11_shift_37 : decode cX11_shift 37 = .ok (.ifCond .ne 10, 3) := by decide +kernel
theorem dX11_shift_40 : decode cX11_shift 40 = .ok (.aload_n 0, 1) := by decide +kernel
theorem dX11_shift_41 : decode cX11_shift 41 = .ok (.bipush (-12), 2) := by decide +kernel
theorem dX11_shift_43 : decode cX11_shift 43 = .ok (.invokevirtual 180, 3) := by decide +kernel
theorem dX11_shift_46 : decode cX11_shift 46 = .ok (.ireturn, 1) := by decide +kernel
theorem dX11_shift_47 : decode cX11_shift 47 = .ok (.aload_n 0, 1) := by decide +kernel
theorem dX11_shift_48 : decode cX11_shift 48 = .ok (.aload_n 3, 1) := by decide +kernel
theorem dX11_shift_49 : decode cX11_shift 49 = .ok (.getfield 190, 3) := by decide +kernel
theorem dX11_shift_52 : decode cX11_shift 52 = .ok (.invokevirtual 98, 3) := by decide +kernel
theorem dX11_shift_55 : decode cX11_shift 55 = .ok (.ireturn, 1) := by decide +kernel
theorem dX11_transpose_0 : decode cX11_transpose 0 = .ok (.aload_n 0, 1) := by decide +kernel
theorem dX11_transpose_1 : decode cX11_transpose 1 = .ok (.iload_n 1, 1) := by decide +kernel
theorem dX11_transpose_2 : decode cX11_transpose 2 = .ok (.invokevirtual 112, 3) := by decide +kernel
theorem dX11_transpose_5 : decode cX11_transpose 5 = .ok (.astore_n 3, 1) := by decide +kernel
theorem dX11_transpose_6 : decode cX11_transpose 6 = .ok (.aload_n 3, 1) := by decide +kernel
theorem dX11_transpose_7 : decode cX11_transpose 7 = .ok (.ifnonnull 10, 3) := by decide +kernel
theorem dX11_transpose_10 : decode cX11_transpose 10 = .ok (.aload_n 0, 1) := by decide +kernel
theorem dX11_transpose_11 : decode cX11_transpose 11 = .ok (.bipush (-2), 2) := by decide +kernel
theorem dX11_transpose_13 : decode cX11_transpose 13 = .ok (.invokevirtual 87, 3) := by decide +kernel
theorem dX11_transpose_16 : decode cX11_transpose 16 = .ok (.ireturn, 1) := by decide +kernel
theorem dX11_transpose_17 : decode cX11_transpose 17 = .ok (.iconst 0, 1) := by decide +kernel
theorem dX11_transpose_18 : decode cX11_transpose 18 = .ok (.istore 4, 2) := by decide +kernel
theorem dX11_transpose_20 : decode cX11_transpose 20 = .ok (.iconst 0, 1) := by decide +kernel
theorem dX11_transpose_21 : decode cX11_transpose 21 = .ok (.istore 5, 2) := by decide +kernel
theorem dX11_transpose_23 : decode cX11_transpose 23 = .ok (.iload 5, 2) := by decide +kernel
theorem dX11_transpose_25 : decode cX11_transpose 25 = .ok (.aload_n 3, 1) := by decide +kernel
theorem dX11_transpose_26 : decode cX11_transpose 26 = .ok (.getfield 116, 3) := by decide +kernel
theorem dX11_transpose_29 : decode cX11_transpose 29 = .ok (.if_icmp .ge 48, 3) := by decide +kernel
theorem dX11_transpose_32 : decode cX11_transpose 32 = .ok (.aload_n 3, 1) := by decide +kernel
theorem dX11_transpose_33 : decode cX11_transpose 33 = .ok (.getfield 224, 3) := by decide +kernel
theorem dX11_transpose_36 : decode cX11_transpose 36 = .ok (.iload 5, 2) := by decide +kernel
theorem dX11_transpose_38 : decode cX11_transpose 38 = .ok (.aaload, 1) := by decide +kernel
theorem dX11_transpose_39 : decode cX11_transpose 39 = .ok (.astore 6, 2) := by decide +kernel
theorem dX11_transpose_41 : decode cX11_transpose 41 = .ok (.aload 6, 2) := by decide +kernel
theorem dX11_transpose_43 : decode cX11_transpose 43 = .ok (.invokevirtual 193, 3) := by decide +kernel
theorem dX11_transpose_46 : decode cX11_transpose 46 = .ok (.ifCond .eq 25, 3) := by decide +kernel
theorem dX11_transpose_49 : decode cX11_transpose 49 = .ok (.aload 6, 2) := by decide +kernel
theorem dX11_transpose_51 : decode cX11_transpose 51 = .ok (.iload_n 2, 1) := by decide +kernel
theorem dX11_transpose_52 : decode cX11_transpose 52 = .ok (.i2l, 1) := by decide +kernel
theorem dX11_transpose_53 : decode cX11_transpose 53 = .ok (.invokevirtual 221, 3) := by decide +kernel
theorem dX11_transpose_56 : decode cX11_transpose 56 = .ok (.ifCond .ne 12, 3) := by decide +kernel
theorem dX11_transpose_59 : decode cX11_transpose 59 = .ok (.aload_n 0, 1) := by decide +kernel
theorem dX11_transpose_60 : decode cX11_transpose 60 = .ok (.bipush (-12), 2) := by decide +kernel
theorem dX11_transpose_62 : decode cX11_transpose 62 = .ok (.iload 4, 2) := by decide +kernel
theorem dX11_transpose_64 : decode cX11_transpose 64 = .ok (.invokevirtual 207, 3) := by decide +kernel
theorem dX11_transpose_67 : decode cX11_transpose 67 = .ok (.ireturn, 1) := by decide +kernel
theorem dX11_transpose_68 : decode cX11_transpose 68 = .ok (.iinc 4 1, 3) := by decide +kernel
theorem dX11_transpose_71 : decode cX11_transpose 71 = .ok (.iinc 5 1, 3) := by decide +kernel
theorem dX11_transpose_74 : decode cX11_transpose 74 = .ok (.goto (-51), 3) := by decide +kernel
theorem dX11_transpose_77 : decode cX11_transpose 77 = .ok (.aload_n 0, 1) := by decide +kernel
theorem dX11_transpose_78 : decode cX11_transpose 78 = .ok (.iload 4, 2) := by decide +kernel
theorem dX11_transpose_80 : decode cX11_transpose 80 = .ok (.invokevirtual 98, 3) := by decide +kernel
theorem dX11_transpose_83 : decode cX11_transpose 83 = .ok (.ireturn, 1) := by decide +kernel
theorem dX11_tie_0 : decode cX11_tie 0 = .ok (.aload_n 0, 1) := by decide +kernel
theorem dX11_tie_1 : decode cX11_tie 1 = .ok (.iload_n 1, 1) := by decide +kernel
theorem dX11_tie_2 : decode cX11_tie 2 = .ok (.invokevirtual 155, 3) := by decide +kernel
theorem dX11_tie_5 : decode cX11_tie 5 = .ok (.astore_n 3, 1) := by decide +kernel
theorem dX11_tie_6 : decode cX11_tie 6 = .ok (.aload_n 3, 1) := by decide +kernel
theorem dX11_tie_7 : decode cX11_tie 7 = .ok (.ifnonnull 10, 3) := by decide +kernel
theorem dX11_tie_10 : decode cX11_tie 10 = .ok (.aload_n 0, 1) := by decide +kernel
theorem dX11_tie_11 : decode cX11_tie 11 = .ok (.bipush (-2), 2) := by decide +kernel
theorem dX11_tie_13 : decode cX11_tie 13 = .ok (.invokevirtual 87, 3) := by decide +kernel
theorem dX11_tie_16 : decode cX11_tie 16 = .ok (.ireturn, 1) := by decide +kernel
theorem dX11_tie_17 : decode cX11_tie 17 = .ok (.aload_n 3, 1) := by decide +kernel
theorem dX11_tie_18 : decode cX11_tie 18 = .ok (.invokevirtual 193, 3) := by decide +kernel
theorem dX11_tie_21 : decode cX11_tie 21 = .ok (.ifCond .ne 10, 3) := by decide +kernel
theorem dX11_tie_24 : decode cX11_tie 24 = .ok (.aload_n 0, 1) := by decide +kernel
theorem dX11_tie_25 : decode cX11_tie 25 = .ok (.bipush (-13), 2) := by decide +kernel
theorem dX11_tie_27 : decode cX11_tie 27 = .ok (.invokevirtual 180, 3) := by decide +kernel
theorem dX11_tie_30 : decode cX11_tie 30 = .ok (.ireturn, 1) := by decide +kernel
theorem dX11_tie_31 : decode cX11_tie 31 = .ok (.aload_n 3, 1) := by decide +kernel
theorem dX11_tie_32 : decode cX11_tie 32 = .ok (.getfield 225, 3) := by decide +kernel
theorem dX11_tie_35 : decode cX11_tie 35 = .ok (.ifCond .eq 7, 3) := by decide +kernel
theorem dX11_tie_38 : decode cX11_tie 38 = .ok (.iconst 1, 1) := by decide +kernel
theorem dX11_tie_39 : decode cX11_tie 39 = .ok (.goto 4, 3) := by decide +kernel
theorem dX11_tie_42 : decode cX11_tie 42 = .ok (.iconst 0, 1) := by decide +kernel
theorem dX11_tie_43 : decode cX11_tie 43 = .ok (.istore 4, 2) := by decide +kernel
theorem dX11_tie_45 : decode cX11_tie 45 = .ok (.aload_n 3, 1) := by decide +kernel
theorem dX11_tie_46 : decode cX11_tie 46 = .ok (.iload_n 2, 1) := by decide +kernel
theorem dX11_tie_47 : decode cX11_tie 47 = .ok (.putfield 225, 3) := by decide +kernel
theorem dX11_tie_50 : decode cX11_tie 50 = .ok (.aload_n 0, 1) := by decide +kernel
theorem dX11_tie_51 : decode cX11_tie 51 = .ok (.iload 4, 2) := by decide +kernel
theorem dX11_tie_53 : decode cX11_tie 53 = .ok (.invokevirtual 98, 3) := by decide +kernel
theorem dX11_tie_56 : decode cX11_tie 56 = .ok (.ireturn, 1) := by decide +kernel
theorem dX11_value_0 : decode cX11_value 0 = .ok (.aload_n 0, 1) := by decide +kernel
theorem dX11_value_1 : decode cX11_value 1 = .ok (.iload_n 1, 1) := by decide +kernel
theorem dX11_value_2 : decode cX11_value 2 = .ok (.invokevirtual 155, 3) := by decide +kernel
theorem dX11_value_5 : decode cX11_value 5 = .ok (.astore 4, 2) := by decide +kernel
theorem dX11_value_7 : decode cX11_value 7 = .ok (.aload 4, 2) := by decide +kernel
theorem dX11_value_9 : decode cX11_value 9 = .ok (.ifnull 17, 3) := by decide +kernel
theorem dX11_value_12 : decode cX11_value 12 = .ok (.iload_n 2, 1) := by decide +kernel
theorem dX11_value_13 : decode cX11_value 13 = .ok (.invokestatic 127, 3) := by decide +kernel
theorem dX11_value_16 : decode cX11_value 16 = .ok (.ifCond .eq 10, 3) := by decide +kernel
theorem dX11_value_19 : decode cX11_value 19 = .ok (.iload_n 3, 1) := by decide +kernel
theorem dX11_value_20 : decode cX11_value 20 = .ok (.invokestatic 130, 3) := by decide +kernel
theorem dX11_value_23 : decode cX11_value 23 = .ok (.ifCond .ne 10, 3) := by decide +kernel
theorem dX11_value_26 : decode cX11_value 26 = .ok (.aload_n 0, 1) := by decide +kernel
theorem dX11_value_27 : decode cX11_value 27 = .ok (.bipush (-2), 2) := by decide +kernel
theorem dX11_value_29 : decode cX11_value 29 = .ok (.invokevirtual 87, 3) := by decide +kernel
theorem dX11_value_32 : decode cX11_value 32 = .ok (.ireturn, 1) := by decide +kernel
theorem dX11_value_33 : decode cX11_value 33 = .ok (.aload 4, 2) := by decide +kernel
theorem dX11_value_35 : decode cX11_value 35 = .ok (.iload_n 2, 1) := by decide +kernel
theorem dX11_value_36 : decode cX11_value 36 = .ok (.putfield 229, 3) := by decide +kernel
theorem dX11_value_39 : decode cX11_value 39 = .ok (.aload 4, 2) := by decide +kernel
theorem dX11_value_41 : decode cX11_value 41 = .ok (.iload_n 3, 1) := by decide +kernel
theorem dX11_value_42 : decode cX11_value 42 = .ok (.putfield 232, 3) := by decide +kernel
theorem dX11_value_45 : decode cX11_value 45 = .ok (.aload_n 0, 1) := by decide +kernel
theorem dX11_value_46 : decode cX11_value 46 = .ok (.aload 4, 2) := by decide +kernel
theorem dX11_value_48 : decode cX11_value 48 = .ok (.getfield 162, 3) := by decide +kernel
theorem dX11_value_51 : decode cX11_value 51 = .ok (.invokevirtual 148, 3) := by decide +kernel
theorem dX11_value_54 : decode cX11_value 54 = .ok (.aload_n 0, 1) := by decide +kernel
theorem dX11_value_55 : decode cX11_value 55 = .ok (.iconst 1, 1) := by decide +kernel
theorem dX11_value_56 : decode cX11_value 56 = .ok (.invokevirtual 98, 3) := by decide +kernel
theorem dX11_value_59 : decode cX11_value 59 = .ok (.ireturn, 1) := by decide +kernel
theorem dX11_at_0 : decode cX11_at 0 = .ok (.aload_n 0, 1) := by decide +kernel
theorem dX11_at_1 : decode cX11_at 1 = .ok (.iload_n 1, 1) := by decide +kernel
theorem dX11_at_2 : decode cX11_at 2 = .ok (.invokevirtual 155, 3) := by decide +kernel
theorem dX11_at_5 : decode cX11_at 5 = .ok (.astore_n 3, 1) := by decide +kernel
theorem dX11_at_6 : decode cX11_at 6 = .ok (.aload_n 3, 1) := by decide +kernel
theorem dX11_at_7 : decode cX11_at 7 = .ok (.ifnonnull 10, 3) := by decide +kernel
theorem dX11_at_10 : decode cX11_at 10 = .ok (.aload_n 0, 1) := by decide +kernel
theorem dX11_at_11 : decode cX11_at 11 = .ok (.bipush (-2), 2) := by decide +kernel
theorem dX11_at_13 : decode cX11_at 13 = .ok (.invokevirtual 87, 3) := by decide +kernel
theorem dX11_at_16 : decode cX11_at 16 = .ok (.ireturn, 1) := by decide +kernel
theorem dX11_at_17 : decode cX11_at 17 = .ok (.iload_n 2, 1) := by decide +kernel
theorem dX11_at_18 : decode cX11_at 18 = .ok (.tableswitch 154 0 8 #[50, 62, 71, 80, 89, 106, 123, 136, 145], 50) := by decide +kernel
theorem dX11_at_68 : decode cX11_at 68 = .ok (.aload_n 0, 1) := by decide +kernel
theorem dX11_at_69 : decode cX11_at 69 = .ok (.aload_n 3, 1) := by decide +kernel
theorem dX11_at_70 : decode cX11_at 70 = .ok (.getfield 162, 3) := by decide +kernel
theorem dX11_at_73 : decode cX11_at 73 = .ok (.getfield 235, 3) := by decide +kernel
theorem dX11_at_76 : decode cX11_at 76 = .ok (.invokevirtual 98, 3) := by decide +kernel
theorem dX11_at_79 : decode cX11_at 79 = .ok (.ireturn, 1) := by decide +kernel
theorem dX11_at_80 : decode cX11_at 80 = .ok (.aload_n 0, 1) := by decide +kernel
theorem dX11_at_81 : decode cX11_at 81 = .ok (.aload_n 3, 1) := by decide +kernel
theorem dX11_at_82 : decode cX11_at 82 = .ok (.getfield 159, 3) := by decide +kernel
theorem dX11_at_85 : decode cX11_at 85 = .ok (.invokevirtual 98, 3) := by decide +kernel
theorem dX11_at_88 : decode cX11_at 88 = .ok (.ireturn, 1) := by decide +kernel
theorem dX11_at_89 : decode cX11_at 89 = .ok (.aload_n 0, 1) := by decide +kernel
theorem dX11_at_90 : decode cX11_at 90 = .ok (.aload_n 3, 1) := by decide +kernel
theorem dX11_at_91 : decode cX11_at 91 = .ok (.getfield 177, 3) := by decide +kernel
theorem dX11_at_94 : decode cX11_at 94 = .ok (.invokevirtual 98, 3) := by decide +kernel
theorem dX11_at_97 : decode cX11_at 97 = .ok (.ireturn, 1) := by decide +kernel
theorem dX11_at_98 : decode cX11_at 98 = .ok (.aload_n 0, 1) := by decide +kernel
theorem dX11_at_99 : decode cX11_at 99 = .ok (.aload_n 3, 1) := by decide +kernel
theorem dX11_at_100 : decode cX11_at 100 = .ok (.getfield 190, 3) := by decide +kernel
theorem dX11_at_103 : decode cX11_at 103 = .ok (.invokevirtual 98, 3) := by decide +kernel
theorem dX11_at_106 : decode cX11_at 106 = .ok (.ireturn, 1) := by decide +kernel
theorem dX11_at_107 : decode cX11_at 107 = .ok (.aload_n 0, 1) := by decide +kernel
theorem dX11_at_108 : decode cX11_at 108 = .ok (.aload_n 3, 1) := by decide +kernel
theorem dX11_at_109 : decode cX11_at 109 = .ok (.getfield 225, 3) := by decide +kernel
theorem dX11_at_112 : decode cX11_at 112 = .ok (.ifCond .eq 7, 3) := by decide +kernel
theorem dX11_at_115 : decode cX11_at 115 = .ok (.iconst 1, 1) := by decide +kernel
theorem dX11_at_116 : decode cX11_at 116 = .ok (.goto 4, 3) := by decide +kernel
theorem dX11_at_119 : decode cX11_at 119 = .ok (.iconst 0, 1) := by decide +kernel
theorem dX11_at_120 : decode cX11_at 120 = .ok (.invokevirtual 98, 3) := by decide +kernel
theorem dX11_at_123 : decode cX11_at 123 = .ok (.ireturn, 1) := by decide +kernel
theorem dX11_at_124 : decode cX11_at 124 = .ok (.aload_n 0, 1) := by decide +kernel
theorem dX11_at_125 : decode cX11_at 125 = .ok (.aload_n 0, 1) := by decide +kernel
theorem dX11_at_126 : decode cX11_at 126 = .ok (.aload_n 3, 1) := by decide +kernel
theorem dX11_at_127 : decode cX11_at 127 = .ok (.getfield 162, 3) := by decide +kernel
theorem dX11_at_130 : decode cX11_at 130 = .ok (.aload_n 3, 1) := by decide +kernel
theorem dX11_at_131 : decode cX11_at 131 = .ok (.getfield 159, 3) := by decide +kernel
theorem dX11_at_134 : decode cX11_at 134 = .ok (.invokevirtual 236, 3) := by decide +kernel
theorem dX11_at_137 : decode cX11_at 137 = .ok (.invokevirtual 98, 3) := by decide +kernel
theorem dX11_at_140 : decode cX11_at 140 = .ok (.ireturn, 1) := by decide +kernel
theorem dX11_at_141 : decode cX11_at 141 = .ok (.aload_n 0, 1) := by decide +kernel
theorem dX11_at_142 : decode cX11_at 142 = .ok (.aload_n 0, 1) := by decide +kernel
theorem dX11_at_143 : decode cX11_at 143 = .ok (.aload_n 3, 1) := by decide +kernel
theorem dX11_at_144 : decode cX11_at 144 = .ok (.getfield 240, 3) := by decide +kernel
theorem dX11_at_147 : decode cX11_at 147 = .ok (.invokevirtual 244, 3) := by decide +kernel
theorem dX11_at_150 : decode cX11_at 150 = .ok (.invokevirtual 98, 3) := by decide +kernel
theorem dX11_at_153 : decode cX11_at 153 = .ok (.ireturn, 1) := by decide +kernel
theorem dX11_at_154 : decode cX11_at 154 = .ok (.aload_n 0, 1) := by decide +kernel
theorem dX11_at_155 : decode cX11_at 155 = .ok (.aload_n 3, 1) := by decide +kernel
theorem dX11_at_156 : decode cX11_at 156 = .ok (.getfield 229, 3) := by decide +kernel
theorem dX11_at_159 : decode cX11_at 159 = .ok (.invokevirtual 98, 3) := by decide +kernel
theorem dX11_at_162 : decode cX11_at 162 = .ok (.ireturn, 1) := by decide +kernel
theorem dX11_at_163 : decode cX11_at 163 = .ok (.aload_n 0, 1) := by decide +kernel
theorem dX11_at_164 : decode cX11_at 164 = .ok (.aload_n 3, 1) := by decide +kernel
theorem dX11_at_165 : decode cX11_at 165 = .ok (.getfield 232, 3) := by decide +kernel
theorem dX11_at_168 : decode cX11_at 168 = .ok (.invokevirtual 98, 3) := by decide +kernel
theorem dX11_at_171 : decode cX11_at 171 = .ok (.ireturn, 1) := by decide +kernel
theorem dX11_at_172 : decode cX11_at 172 = .ok (.aload_n 0, 1) := by decide +kernel
theorem dX11_at_173 : decode cX11_at 173 = .ok (.bipush (-2), 2) := by decide +kernel
theorem dX11_at_175 : decode cX11_at 175 = .ok (.invokevirtual 87, 3) := by decide +kernel
theorem dX11_at_178 : decode cX11_at 178 = .ok (.ireturn, 1) := by decide +kernel
theorem dX11_time_0 : decode cX11_time 0 = .ok (.aload_n 0, 1) := by decide +kernel
theorem dX11_time_1 : decode cX11_time 1 = .ok (.iload_n 1, 1) := by decide +kernel
theorem dX11_time_2 : decode cX11_time 2 = .ok (.invokevirtual 155, 3) := by decide +kernel
theorem dX11_time_5 : decode cX11_time 5 = .ok (.astore_n 3, 1) := by decide +kernel
theorem dX11_time_6 : decode cX11_time 6 = .ok (.aload_n 3, 1) := by decide +kernel
theorem dX11_time_7 : decode cX11_time 7 = .ok (.ifnonnull 11, 3) := by decide +kernel
theorem dX11_time_10 : decode cX11_time 10 = .ok (.aload_n 0, 1) := by decide +kernel
theorem dX11_time_11 : decode cX11_time 11 = .ok (.bipush (-2), 2) := by decide +kernel
theorem dX11_time_13 : decode cX11_time 13 = .ok (.invokevirtual 87, 3) := by decide +kernel
theorem dX11_time_16 : decode cX11_time 16 = .ok (.i2l, 1) := by decide +kernel
theorem dX11_time_17 : decode cX11_time 17 = .ok (.lreturn, 1) := by decide +kernel
theorem dX11_time_18 : decode cX11_time 18 = .ok (.iload_n 2, 1) := by decide +kernel
theorem dX11_time_19 : decode cX11_time 19 = .ok (.tableswitch 117 0 5 #[37, 49, 61, 73, 85, 101], 37) := by decide +kernel
theorem dX11_time_56 : decode cX11_time 56 = .ok (.aload_n 0, 1) := by decide +kernel
theorem dX11_time_57 : decode cX11_time 57 = .ok (.aload_n 3, 1) := by decide +kernel
theorem dX11_time_58 : decode cX11_time 58 = .ok (.getfield 240, 3) := by decide +kernel
theorem dX11_time_61 : decode cX11_time 61 = .ok (.invokestatic 248, 3) := by decide +kernel
theorem dX11_time_64 : decode cX11_time 64 = .ok (.invokevirtual 252, 3) := by decide +kernel
theorem dX11_time_67 : decode cX11_time 67 = .ok (.lreturn, 1) := by decide +kernel
theorem dX11_time_68 : decode cX11_time 68 = .ok (.aload_n 0, 1) := by decide +kernel
theorem dX11_time_69 : decode cX11_time 69 = .ok (.aload_n 3, 1) := by decide +kernel
theorem dX11_time_70 : decode cX11_time 70 = .ok (.getfield 240, 3) := by decide +kernel
theorem dX11_time_73 : decode cX11_time 73 = .ok (.invokestatic 255, 3) := by decide +kernel
theorem dX11_time_76 : decode cX11_time 76 = .ok (.invokevirtual 252, 3) := by decide +kernel
theorem dX11_time_79 : decode cX11_time 79 = .ok (.lreturn, 1) := by decide +kernel
theorem dX11_time_80 : decode cX11_time 80 = .ok (.aload_n 0, 1) := by decide +kernel
theorem dX11_time_81 : decode cX11_time 81 = .ok (.aload_n 3, 1) := by decide +kernel
theorem dX11_time_82 : decode cX11_time 82 = .ok (.getfield 258, 3) := by decide +kernel
theorem dX11_time_85 : decode cX11_time 85 = .ok (.invokestatic 248, 3) := by decide +kernel
theorem dX11_time_88 : decode cX11_time 88 = .ok (.invokevirtual 252, 3) := by decide +kernel
theorem dX11_time_91 : decode cX11_time 91 = .ok (.lreturn, 1) := by decide +kernel
theorem dX11_time_92 : decode cX11_time 92 = .ok (.aload_n 0, 1) := by decide +kernel
theorem dX11_time_93 : decode cX11_time 93 = .ok (.aload_n 3, 1) := by decide +kernel
theorem dX11_time_94 : decode cX11_time 94 = .ok (.getfield 258, 3) := by decide +kernel
theorem dX11_time_97 : decode cX11_time 97 = .ok (.invokestatic 255, 3) := by decide +kernel
theorem dX11_time_100 : decode cX11_time 100 = .ok (.invokevirtual 252, 3) := by decide +kernel
theorem dX11_time_103 : decode cX11_time 103 = .ok (.lreturn, 1) := by decide +kernel
theorem dX11_time_104 : decode cX11_time 104 = .ok (.aload_n 0, 1) := by decide +kernel
theorem dX11_time_105 : decode cX11_time 105 = .ok (.aload_n 0, 1) := by decide +kernel
theorem dX11_time_106 : decode cX11_time 106 = .ok (.aload_n 3, 1) := by decide +kernel
theorem dX11_time_107 : decode cX11_time 107 = .ok (.getfield 240, 3) := by decide +kernel
theorem dX11_time_110 : decode cX11_time 110 = .ok (.invokevirtual 261, 3) := by decide +kernel
theorem dX11_time_113 : decode cX11_time 113 = .ok (.invokestatic 248, 3) := by decide +kernel
theorem dX11_time_116 : decode cX11_time 116 = .ok (.invokevirtual 252, 3) := by decide +kernel
theorem dX11_time_119 : decode cX11_time 119 = .ok (.lreturn, 1) := by decide +kernel
theorem dX11_time_120 : decode cX11_time 120 = .ok (.aload_n 0, 1) := by decide +kernel
theorem dX11_time_121 : decode cX11_time 121 = .ok (.aload_n 0, 1) := by decide +kernel
theorem dX11_time_122 : decode cX11_time 122 = .ok (.aload_n 3, 1) := by decide +kernel
theorem dX11_time_123 : decode cX11_time 123 = .ok (.getfield 240, 3) := by decide +kernel
theorem dX11_time_126 : decode cX11_time 126 = .ok (.invokevirtual 261, 3) := by decide +kernel
theorem dX11_time_129 : decode cX11_time 129 = .ok (.invokestatic 255, 3) := by decide +kernel
theorem dX11_time_132 : decode cX11_time 132 = .ok (.invokevirtual 252, 3) := by decide +kernel
theorem dX11_time_135 : decode cX11_time 135 = .ok (.lreturn, 1) := by decide +kernel
theorem dX11_time_136 : decode cX11_time 136 = .ok (.aload_n 0, 1) := by decide +kernel
theorem dX11_time_137 : decode cX11_time 137 = .ok (.bipush (-2), 2) := by decide +kernel
theorem dX11_time_139 : decode cX11_time 139 = .ok (.invokevirtual 87, 3) := by decide +kernel
theorem dX11_time_142 : decode cX11_time 142 = .ok (.i2l, 1) := by decide +kernel
theorem dX11_time_143 : decode cX11_time 143 = .ok (.lreturn, 1) := by decide +kernel
theorem dX11_length_0 : decode cX11_length 0 = .ok (.aload_n 0, 1) := by decide +kernel
theorem dX11_length_1 : decode cX11_length 1 = .ok (.iload_n 1, 1) := by decide +kernel
theorem dX11_length_2 : decode cX11_length 2 = .ok (.invokevirtual 112, 3) := by decide +kernel
theorem dX11_length_5 : decode cX11_length 5 = .ok (.astore_n 3, 1) := by decide +kernel
theorem dX11_length_6 : decode cX11_length 6 = .ok (.aload_n 3, 1) := by decide +kernel
theorem dX11_length_7 : decode cX11_length 7 = .ok (.ifnonnull 11, 3) := by decide +kernel
theorem dX11_length_10 : decode cX11_length 10 = .ok (.aload_n 0, 1) := by decide +kernel
theorem dX11_length_11 : decode cX11_length 11 = .ok (.bipush (-2), 2) := by decide +kernel
theorem dX11_length_13 : decode cX11_length 13 = .ok (.invokevirtual 87, 3) := by decide +kernel
theorem dX11_length_16 : decode cX11_length 16 = .ok (.i2l, 1) := by decide +kernel
theorem dX11_length_17 : decode cX11_length 17 = .ok (.lreturn, 1) := by decide +kernel
theorem dX11_length_18 : decode cX11_length 18 = .ok (.iload_n 2, 1) := by decide +kernel
theorem dX11_length_19 : decode cX11_length 19 = .ok (.lookupswitch 49 #[(0, 25), (1, 37)], 25) := by decide +kernel
theorem dX11_length_44 : decode cX11_length 44 = .ok (.aload_n 0, 1) := by decide +kernel
theorem dX11_length_45 : decode cX11_length 45 = .ok (.aload_n 3, 1) := by decide +kernel
theorem dX11_length_46 : decode cX11_length 46 = .ok (.getfield 264, 3) := by decide +kernel
theorem dX11_length_49 : decode cX11_length 49 = .ok (.invokestatic 248, 3) := by decide +kernel
theorem dX11_length_52 : decode cX11_length 52 = .ok (.invokevirtual 252, 3) := by decide +kernel
theorem dX11_length_55 : decode cX11_length 55 = .ok (.lreturn, 1) := by decide +kernel
theorem dX11_length_56 : decode cX11_length 56 = .ok (.aload_n 0, 1) := by decide +kernel
theorem dX11_length_57 : decode cX11_length 57 = .ok (.aload_n 3, 1) := by decide +kernel
theorem dX11_length_58 : decode cX11_length 58 = .ok (.getfield 264, 3) := by decide +kernel
theorem dX11_length_61 : decode cX11_length 61 = .ok (.invokestatic 255, 3) := by decide +kernel
theorem dX11_length_64 : decode cX11_length 64 = .ok (.invokevirtual 252, 3) := by decide +kernel
theorem dX11_length_67 : decode cX11_length 67 = .ok (.lreturn, 1) := by decide +kernel
theorem dX11_length_68 : decode cX11_length 68 = .ok (.aload_n 0, 1) := by decide +kernel
theorem dX11_length_69 : decode cX11_length 69 = .ok (.bipush (-2), 2) := by decide +kernel
theorem dX11_length_71 : decode cX11_length 71 = .ok (.invokevirtual 87, 3) := by decide +kernel
theorem dX11_length_74 : decode cX11_length 74 = .ok (.i2l, 1) := by decide +kernel
theorem dX11_length_75 : decode cX11_length 75 = .ok (.lreturn, 1) := by decide +kernel
theorem dX11_event_0 : decode cX11_event 0 = .ok (.aload_n 0, 1) := by decide +kernel
theorem dX11_event_1 : decode cX11_event 1 = .ok (.iload_n 1, 1) := by decide +kernel
theorem dX11_event_2 : decode cX11_event 2 = .ok (.invokevirtual 112, 3) := by decide +kernel
theorem dX11_event_5 : decode cX11_event 5 = .ok (.astore_n 3, 1) := by decide +kernel
theorem dX11_event_6 : decode cX11_event 6 = .ok (.aload_n 3, 1) := by decide +kernel
theorem dX11_event_7 : decode cX11_event 7 = .ok (.ifnonnull 10, 3) := by decide +kernel
theorem dX11_event_10 : decode cX11_event 10 = .ok (.aload_n 0, 1) := by decide +kernel
theorem dX11_event_11 : decode cX11_event 11 = .ok (.bipush (-2), 2) := by decide +kernel
theorem dX11_event_13 : decode cX11_event 13 = .ok (.invokevirtual 87, 3) := by decide +kernel
theorem dX11_event_16 : decode cX11_event 16 = .ok (.ireturn, 1) := by decide +kernel
theorem dX11_event_17 : decode cX11_event 17 = .ok (.aload_n 3, 1) := by decide +kernel
theorem dX11_event_18 : decode cX11_event 18 = .ok (.iload_n 2, 1) := by decide +kernel
theorem dX11_event_19 : decode cX11_event 19 = .ok (.invokevirtual 265, 3) := by decide +kernel
theorem dX11_event_22 : decode cX11_event 22 = .ok (.astore 4, 2) := by decide +kernel
theorem dX11_event_24 : decode cX11_event 24 = .ok (.aload_n 0, 1) := by decide +kernel
theorem dX11_event_25 : decode cX11_event 25 = .ok (.aload 4, 2) := by decide +kernel
theorem dX11_event_27 : decode cX11_event 27 = .ok (.ifnonnull 7, 3) := by decide +kernel
theorem dX11_event_30 : decode cX11_event 30 = .ok (.iconst (-1), 1) := by decide +kernel
theorem dX11_event_31 : decode cX11_event 31 = .ok (.goto 8, 3) := by decide +kernel
theorem dX11_event_34 : decode cX11_event 34 = .ok (.aload 4, 2) := by decide +kernel
theorem dX11_event_36 : decode cX11_event 36 = .ok (.getfield 152, 3) := by decide +kernel
theorem dX11_event_39 : decode cX11_event 39 = .ok (.invokevirtual 98, 3) := by decide +kernel
theorem dX11_event_42 : decode cX11_event 42 = .ok (.ireturn, 1) := by decide +kernel
theorem dX11_asks_0 : decode cX11_asks 0 = .ok (.iload_n 1, 1) := by decide +kernel
theorem dX11_asks_1 : decode cX11_asks 1 = .ok (.ifCond .lt 11, 3) := by decide +kernel
theorem dX11_asks_4 : decode cX11_asks 4 = .ok (.iload_n 1, 1) := by decide +kernel
theorem dX11_asks_5 : decode cX11_asks 5 = .ok (.aload_n 0, 1) := by decide +kernel
theorem dX11_asks_6 : decode cX11_asks 6 = .ok (.getfield 15, 3) := by decide +kernel
theorem dX11_asks_9 : decode cX11_asks 9 = .ok (.if_icmp .lt 13, 3) := by decide +kernel
theorem dX11_asks_12 : decode cX11_asks 12 = .ok (.aload_n 0, 1) := by decide +kernel
theorem dX11_asks_13 : decode cX11_asks 13 = .ok (.bipush (-2), 2) := by decide +kernel
theorem dX11_asks_15 : decode cX11_asks 15 = .ok (.sipush (-2000), 3) := by decide +kernel
theorem dX11_asks_18 : decode cX11_asks 18 = .ok (.invokevirtual 203, 3) := by decide +kernel
theorem dX11_asks_21 : decode cX11_asks 21 = .ok (.ireturn, 1) := by decide +kernel
theorem dX11_asks_22 : decode cX11_asks 22 = .ok (.aload_n 0, 1) := by decide +kernel
theorem dX11_asks_23 : decode cX11_asks 23 = .ok (.getfield 11, 3) := by decide +kernel
theorem dX11_asks_26 : decode cX11_asks 26 = .ok (.iload_n 1, 1) := by decide +kernel
theorem dX11_asks_27 : decode cX11_asks 27 = .ok (.aaload, 1) := by decide +kernel
theorem dX11_asks_28 : decode cX11_asks 28 = .ok (.astore 4, 2) := by decide +kernel
theorem dX11_asks_30 : decode cX11_asks 30 = .ok (.iload_n 2, 1) := by decide +kernel
theorem dX11_asks_31 : decode cX11_asks 31 = .ok (.tableswitch 56 0 2 #[25, 36, 46], 25) := by decide +kernel
theorem dX11_asks_56 : decode cX11_asks 56 = .ok (.aload_n 0, 1) := by decide +kernel
theorem dX11_asks_57 : decode cX11_asks 57 = .ok (.aload 4, 2) := by decide +kernel
theorem dX11_asks_59 : decode cX11_asks 59 = .ok (.iload_n 3, 1) := by decide +kernel
theorem dX11_asks_60 : decode cX11_asks 60 = .ok (.invokevirtual 214, 3) := by decide +kernel
theorem dX11_asks_63 : decode cX11_asks 63 = .ok (.invokevirtual 98, 3) := by decide +kernel
theorem dX11_asks_66 : decode cX11_asks 66 = .ok (.ireturn, 1) := by decide +kernel
theorem dX11_asks_67 : decode cX11_asks 67 = .ok (.aload_n 0, 1) := by decide +kernel
theorem dX11_asks_68 : decode cX11_asks 68 = .ok (.aload 4, 2) := by decide +kernel
theorem dX11_asks_70 : decode cX11_asks 70 = .ok (.invokevirtual 268, 3) := by decide +kernel
theorem dX11_asks_73 : decode cX11_asks 73 = .ok (.invokevirtual 98, 3) := by decide +kernel
theorem dX11_asks_76 : decode cX11_asks 76 = .ok (.ireturn, 1) := by decide +kernel
theorem dX11_asks_77 : decode cX11_asks 77 = .ok (.aload_n 0, 1) := by decide +kernel
theorem dX11_asks_78 : decode cX11_asks 78 = .ok (.aload 4, 2) := by decide +kernel
theorem dX11_asks_80 : decode cX11_asks 80 = .ok (.invokevirtual 271, 3) := by decide +kernel
theorem dX11_asks_83 : decode cX11_asks 83 = .ok (.invokevirtual 98, 3) := by decide +kernel
theorem dX11_asks_86 : decode cX11_asks 86 = .ok (.ireturn, 1) := by decide +kernel
theorem dX11_asks_87 : decode cX11_asks 87 = .ok (.aload_n 0, 1) := by decide +kernel
theorem dX11_asks_88 : decode cX11_asks 88 = .ok (.bipush (-2), 2) := by decide +kernel
theorem dX11_asks_90 : decode cX11_asks 90 = .ok (.sipush (-2000), 3) := by decide +kernel
theorem dX11_asks_93 : decode cX11_asks 93 = .ok (.invokevirtual 203, 3) := by decide +kernel
theorem dX11_asks_96 : decode cX11_asks 96 = .ok (.ireturn, 1) := by decide +kernel
theorem dX11_tuplet_0 : decode cX11_tuplet 0 = .ok (.aload_n 0, 1) := by decide +kernel
theorem dX11_tuplet_1 : decode cX11_tuplet 1 = .ok (.iload_n 1, 1) := by decide +kernel
theorem dX11_tuplet_2 : decode cX11_tuplet 2 = .ok (.invokevirtual 112, 3) := by decide +kernel
theorem dX11_tuplet_5 : decode cX11_tuplet 5 = .ok (.astore 7, 2) := by decide +kernel
theorem dX11_tuplet_7 : decode cX11_tuplet 7 = .ok (.aload 7, 2) := by decide +kernel
theorem dX11_tuplet_9 : decode cX11_tuplet 9 = .ok (.ifnull 23, 3) := by decide +kernel
theorem dX11_tuplet_12 : decode cX11_tuplet 12 = .ok (.iload_n 2, 1) := by decide +kernel
theorem dX11_tuplet_13 : decode cX11_tuplet 13 = .ok (.ifCond .lt 19, 3) := by decide +kernel
theorem dX11_tuplet_16 : decode cX11_tuplet 16 = .ok (.iload_n 3, 1) := by decide +kernel
theorem dX11_tuplet_17 : decode cX11_tuplet 17 = .ok (.iconst 1, 1) := by decide +kernel
theorem dX11_tuplet_18 : decode cX11_tuplet 18 = .ok (.if_icmp .lt 14, 3) := by decide +kernel
theorem dX11_tuplet_21 : decode cX11_tuplet 21 = .ok (.iload_n 2, 1) := by decide +kernel
theorem dX11_tuplet_22 : decode cX11_tuplet 22 = .ok (.aload 7, 2) := by decide +kernel
theorem dX11_tuplet_24 : decode cX11_tuplet 24 = .ok (.getfield 116, 3) := by decide +kernel
theorem dX11_tuplet_27 : decode cX11_tuplet 27 = .ok (.iload_n 3, 1) := by decide +kernel
theorem dX11_tuplet_28 : decode cX11_tuplet 28 = .ok (.isub, 1) := by decide +kernel
theorem dX11_tuplet_29 : decode cX11_tuplet 29 = .ok (.if_icmp .le 10, 3) := by decide +kernel
theorem dX11_tuplet_32 : decode cX11_tuplet 32 = .ok (.aload_n 0, 1) := by decide +kernel
theorem dX11_tuplet_33 : decode cX11_tuplet 33 = .ok (.bipush (-2), 2) := by decide +kernel
theorem dX11_tuplet_35 : decode cX11_tuplet 35 = .ok (.invokevirtual 87, 3) := by decide +kernel
theorem dX11_tuplet_38 : decode cX11_tuplet 38 = .ok (.ireturn, 1) := by decide +kernel
theorem dX11_tuplet_39 : decode cX11_tuplet 39 = .ok (.iload 4, 2) := by decide +kernel
theorem dX11_tuplet_41 : decode cX11_tuplet 41 = .ok (.invokestatic 274, 3) := by decide +kernel
theorem dX11_tuplet_44 : decode cX11_tuplet 44 = .ok (.ifCond .eq 24, 3) := by decide +kernel
theorem dX11_tuplet_47 : decode cX11_tuplet 47 = .ok (.iload 5, 2) := by decide +kernel
theorem dX11_tuplet_49 : decode cX11_tuplet 49 = .ok (.iconst 1, 1) := by decide +kernel
theorem dX11_tuplet_50 : decode cX11_tuplet 50 = .ok (.if_icmp .lt 18, 3) := by decide +kernel
theorem dX11_tuplet_53 : decode cX11_tuplet 53 = .ok (.iload 5, 2) := by decide +kernel
theorem dX11_tuplet_55 : decode cX11_tuplet 55 = .ok (.bipush 8, 2) := by decide +kernel
theorem dX11_tuplet_57 : decode cX11_tuplet 57 = .ok (.if_icmp .gt 11, 3) := by decide +kernel
theorem dX11_tuplet_60 : decode cX11_tuplet 60 = .ok (.iload 6, 2) := by decide +kernel
theorem dX11_tuplet_62 : decode cX11_tuplet 62 = .ok (.invokestatic 127, 3) := by decide +kernel
theorem dX11_tuplet_65 : decode cX11_tuplet 65 = .ok (.ifCond .ne 10, 3) := by decide +kernel
theorem dX11_tuplet_68 : decode cX11_tuplet 68 = .ok (.aload_n 0, 1) := by decide +kernel
theorem dX11_tuplet_69 : decode cX11_tuplet 69 = .ok (.bipush (-2), 2) := by decide +kernel
theorem dX11_tuplet_71 : decode cX11_tuplet 71 = .ok (.invokevirtual 87, 3) := by decide +kernel
theorem dX11_tuplet_74 : decode cX11_tuplet 74 = .ok (.ireturn, 1) := by decide +kernel
theorem dX11_tuplet_75 : decode cX11_tuplet 75 = .ok (.aload_n 0, 1) := by decide +kernel
theorem dX11_tuplet_76 : decode cX11_tuplet 76 = .ok (.aload 7, 2) := by decide +kernel
theorem dX11_tuplet_78 : decode cX11_tuplet 78 = .ok (.iload_n 2, 1) := by decide +kernel
theorem dX11_tuplet_79 : decode cX11_tuplet 79 = .ok (.iload_n 3, 1) := by decide +kernel
theorem dX11_tuplet_80 : decode cX11_tuplet 80 = .ok (.invokevirtual 277, 3) := by decide +kernel
theorem dX11_tuplet_83 : decode cX11_tuplet 83 = .ok (.ifCond .ne 10, 3) := by decide +kernel
theorem dX11_tuplet_86 : decode cX11_tuplet 86 = .ok (.aload_n 0, 1) := by decide +kernel
theorem dX11_tuplet_87 : decode cX11_tuplet 87 = .ok (.bipush (-3), 2) := by decide +kernel
theorem dX11_tuplet_89 : decode cX11_tuplet 89 = .ok (.invokevirtual 87, 3) := by decide +kernel
theorem dX11_tuplet_92 : decode cX11_tuplet 92 = .ok (.ireturn, 1) := by decide +kernel
theorem dX11_tuplet_93 : decode cX11_tuplet 93 = .ok (.aload_n 0, 1) := by decide +kernel
theorem dX11_tuplet_94 : decode cX11_tuplet 94 = .ok (.getfield 47, 3) := by decide +kernel
theorem dX11_tuplet_97 : decode cX11_tuplet 97 = .ok (.bipush 20, 2) := by decide +kernel
theorem dX11_tuplet_99 : decode cX11_tuplet 99 = .ok (.if_icmp .lt 10, 3) := by decide +kernel
theorem dX11_tuplet_102 : decode cX11_tuplet 102 = .ok (.aload_n 0, 1) := by decide +kernel
theorem dX11_tuplet_103 : decode cX11_tuplet 103 = .ok (.bipush (-4), 2) := by decide +kernel
theorem dX11_tuplet_105 : decode cX11_tuplet 105 = .ok (.invokevirtual 87, 3) := by decide +kernel
theorem dX11_tuplet_108 : decode cX11_tuplet 108 = .ok (.ireturn, 1) := by decide +kernel
theorem dX11_tuplet_109 : decode cX11_tuplet 109 = .ok (.aload_n 0, 1) := by decide +kernel
theorem dX11_tuplet_110 : decode cX11_tuplet 110 = .ok (.getfield 43, 3) := by decide +kernel
theorem dX11_tuplet_113 : decode cX11_tuplet 113 = .ok (.aload_n 0, 1) := by decide +kernel
theorem dX11_tuplet_114 : decode cX11_tuplet 114 = .ok (.getfield 47, 3) := by decide +kernel
theorem dX11_tuplet_117 : decode cX11_tuplet 117 = .ok (.new 41, 3) := by decide +kernel
theorem dX11_tuplet_120 : decode cX11_tuplet 120 = .ok (.dup, 1) := by decide +kernel
theorem dX11_tuplet_121 : decode cX11_tuplet 121 = .ok (.aload_n 0, 1) := by decide +kernel
theorem dX11_tuplet_122 : decode cX11_tuplet 122 = .ok (.getfield 47, 3) := by decide +kernel
theorem dX11_tuplet_125 : decode cX11_tuplet 125 = .ok (.aload 7, 2) := by decide +kernel
theorem dX11_tuplet_127 : decode cX11_tuplet 127 = .ok (.iload_n 2, 1) := by decide +kernel
theorem dX11_tuplet_128 : decode cX11_tuplet 128 = .ok (.iload_n 3, 1) := by decide +kernel
theorem dX11_tuplet_129 : decode cX11_tuplet 129 = .ok (.iload 4, 2) := by decide +kernel
theorem dX11_tuplet_131 : decode cX11_tuplet 131 = .ok (.iload 5, 2) := by decide +kernel
theorem dX11_tuplet_133 : decode cX11_tuplet 133 = .ok (.iload 6, 2) := by decide +kernel
theorem dX11_tuplet_135 : decode cX11_tuplet 135 = .ok (.invokespecial 281, 3) := by decide +kernel
theorem dX11_tuplet_138 : decode cX11_tuplet 138 = .ok (.aastore, 1) := by decide +kernel
theorem dX11_tuplet_139 : decode cX11_tuplet 139 = .ok (.aload_n 0, 1) := by decide +kernel
theorem dX11_tuplet_140 : decode cX11_tuplet 140 = .ok (.dup, 1) := by decide +kernel
theorem dX11_tuplet_141 : decode cX11_tuplet 141 = .ok (.getfield 47, 3) := by decide +kernel
theorem dX11_tuplet_144 : decode cX11_tuplet 144 = .ok (.iconst 1, 1) := by decide +kernel
theorem dX11_tuplet_145 : decode cX11_tuplet 145 = .ok (.iadd, 1) := by decide +kernel
theorem dX11_tuplet_146 : decode cX11_tuplet 146 = .ok (.putfield 47, 3) := by decide +kernel
theorem dX11_tuplet_149 : decode cX11_tuplet 149 = .ok (.aload_n 0, 1) := by decide +kernel
theorem dX11_tuplet_150 : decode cX11_tuplet 150 = .ok (.aload 7, 2) := by decide +kernel
theorem dX11_tuplet_152 : decode cX11_tuplet 152 = .ok (.invokevirtual 148, 3) := by decide +kernel
theorem dX11_tuplet_155 : decode cX11_tuplet 155 = .ok (.aload_n 0, 1) := by decide +kernel
theorem dX11_tuplet_156 : decode cX11_tuplet 156 = .ok (.aload_n 0, 1) := by decide +kernel
theorem dX11_tuplet_157 : decode cX11_tuplet 157 = .ok (.getfield 47, 3) := by decide +kernel
theorem dX11_tuplet_160 : decode cX11_tuplet 160 = .ok (.iconst 1, 1) := by decide +kernel
theorem dX11_tuplet_161 : decode cX11_tuplet 161 = .ok (.isub, 1) := by decide +kernel
theorem dX11_tuplet_162 : decode cX11_tuplet 162 = .ok (.invokevirtual 98, 3) := by decide +kernel
theorem dX11_tuplet_165 : decode cX11_tuplet 165 = .ok (.ireturn, 1) := by decide +kernel
theorem dX11_untuplet_0 : decode cX11_untuplet 0 = .ok (.aload_n 0, 1) := by decide +kernel
theorem dX11_untuplet_1 : decode cX11_untuplet 1 = .ok (.iload_n 1, 1) := by decide +kernel
theorem dX11_untuplet_2 : decode cX11_untuplet 2 = .ok (.invokevirtual 284, 3) := by decide +kernel
theorem dX11_untuplet_5 : decode cX11_untuplet 5 = .ok (.astore_n 2, 1) := by decide +kernel
theorem dX11_untuplet_6 : decode cX11_untuplet 6 = .ok (.aload_n 2, 1) := by decide +kernel
theorem dX11_untuplet_7 : decode cX11_untuplet 7 = .ok (.ifnonnull 10, 3) := by decide +kernel
theorem dX11_untuplet_10 : decode cX11_untuplet 10 = .ok (.aload_n 0, 1) := by decide +kernel
theorem dX11_untuplet_11 : decode cX11_untuplet 11 = .ok (.bipush (-2), 2) := by decide +kernel
theorem dX11_untuplet_13 : decode cX11_untuplet 13 = .ok (.invokevirtual 87, 3) := by decide +kernel
theorem dX11_untuplet_16 : decode cX11_untuplet 16 = .ok (.ireturn, 1) := by decide +kernel
theorem dX11_untuplet_17 : decode cX11_untuplet 17 = .ok (.aload_n 0, 1) := by decide +kernel
theorem dX11_untuplet_18 : decode cX11_untuplet 18 = .ok (.getfield 43, 3) := by decide +kernel
theorem dX11_untuplet_21 : decode cX11_untuplet 21 = .ok (.iload_n 1, 1) := by decide +kernel
theorem dX11_untuplet_22 : decode cX11_untuplet 22 = .ok (.aconst_null, 1) := by decide +kernel
theorem dX11_untuplet_23 : decode cX11_untuplet 23 = .ok (.aastore, 1) := by decide +kernel
theorem dX11_untuplet_24 : decode cX11_untuplet 24 = .ok (.aload_n 0, 1) := by decide +kernel
theorem dX11_untuplet_25 : decode cX11_untuplet 25 = .ok (.aload_n 2, 1) := by decide +kernel
theorem dX11_untuplet_26 : decode cX11_untuplet 26 = .ok (.getfield 140, 3) := by decide +kernel
theorem dX11_untuplet_29 : decode cX11_untuplet 29 = .ok (.invokevirtual 148, 3) := by decide +kernel
theorem dX11_untuplet_32 : decode cX11_untuplet 32 = .ok (.aload_n 0, 1) := by decide +kernel
theorem dX11_untuplet_33 : decode cX11_untuplet 33 = .ok (.aload_n 2, 1) := by decide +kernel
theorem dX11_untuplet_34 : decode cX11_untuplet 34 = .ok (.getfield 288, 3) := by decide +kernel
theorem dX11_untuplet_37 : decode cX11_untuplet 37 = .ok (.invokevirtual 98, 3) := by decide +kernel
theorem dX11_untuplet_40 : decode cX11_untuplet 40 = .ok (.ireturn, 1) := by decide +kernel
theorem dX11_tupletAt_0 : decode cX11_tupletAt 0 = .ok (.aload_n 0, 1) := by decide +kernel
theorem dX11_tupletAt_1 : decode cX11_tupletAt 1 = .ok (.iload_n 1, 1) := by decide +kernel
theorem dX11_tupletAt_2 : decode cX11_tupletAt 2 = .ok (.invokevirtual 284, 3) := by decide +kernel
theorem dX11_tupletAt_5 : decode cX11_tupletAt 5 = .ok (.astore_n 3, 1) := by decide +kernel
theorem dX11_tupletAt_6 : decode cX11_tupletAt 6 = .ok (.aload_n 3, 1) := by decide +kernel
theorem dX11_tupletAt_7 : decode cX11_tupletAt 7 = .ok (.ifnonnull 10, 3) := by decide +kernel
theorem dX11_tupletAt_10 : decode cX11_tupletAt 10 = .ok (.aload_n 0, 1) := by decide +kernel
theorem dX11_tupletAt_11 : decode cX11_tupletAt 11 = .ok (.bipush (-2), 2) := by decide +kernel
theorem dX11_tupletAt_13 : decode cX11_tupletAt 13 = .ok (.invokevirtual 87, 3) := by decide +kernel
theorem dX11_tupletAt_16 : decode cX11_tupletAt 16 = .ok (.ireturn, 1) := by decide +kernel
theorem dX11_tupletAt_17 : decode cX11_tupletAt 17 = .ok (.iload_n 2, 1) := by decide +kernel
theorem dX11_tupletAt_18 : decode cX11_tupletAt 18 = .ok (.tableswitch 109 0 6 #[42, 54, 63, 72, 81, 90, 99], 42) := by decide +kernel
theorem dX11_tupletAt_60 : decode cX11_tupletAt 60 = .ok (.aload_n 0, 1) := by decide +kernel
theorem dX11_tupletAt_61 : decode cX11_tupletAt 61 = .ok (.aload_n 3, 1) := by decide +kernel
theorem dX11_tupletAt_62 : decode cX11_tupletAt 62 = .ok (.getfield 140, 3) := by decide +kernel
theorem dX11_tupletAt_65 : decode cX11_tupletAt 65 = .ok (.getfield 235, 3) := by decide +kernel
theorem dX11_tupletAt_68 : decode cX11_tupletAt 68 = .ok (.invokevirtual 98, 3) := by decide +kernel
theorem dX11_tupletAt_71 : decode cX11_tupletAt 71 = .ok (.ireturn, 1) := by decide +kernel
theorem dX11_tupletAt_72 : decode cX11_tupletAt 72 = .ok (.aload_n 0, 1) := by decide +kernel
theorem dX11_tupletAt_73 : decode cX11_tupletAt 73 = .ok (.aload_n 3, 1) := by decide +kernel
theorem dX11_tupletAt_74 : decode cX11_tupletAt 74 = .ok (.getfield 291, 3) := by decide +kernel
theorem dX11_tupletAt_77 : decode cX11_tupletAt 77 = .ok (.invokevirtual 98, 3) := by decide +kernel
theorem dX11_tupletAt_80 : decode cX11_tupletAt 80 = .ok (.ireturn, 1) := by decide +kernel
theorem dX11_tupletAt_81 : decode cX11_tupletAt 81 = .ok (.aload_n 0, 1) := by decide +kernel
theorem dX11_tupletAt_82 : decode cX11_tupletAt 82 = .ok (.aload_n 3, 1) := by decide +kernel
theorem dX11_tupletAt_83 : decode cX11_tupletAt 83 = .ok (.getfield 288, 3) := by decide +kernel
theorem dX11_tupletAt_86 : decode cX11_tupletAt 86 = .ok (.invokevirtual 98, 3) := by decide +kernel
theorem dX11_tupletAt_89 : decode cX11_tupletAt 89 = .ok (.ireturn, 1) := by decide +kernel
theorem dX11_tupletAt_90 : decode cX11_tupletAt 90 = .ok (.aload_n 0, 1) := by decide +kernel
theorem dX11_tupletAt_91 : decode cX11_tupletAt 91 = .ok (.aload_n 3, 1) := by decide +kernel
theorem dX11_tupletAt_92 : decode cX11_tupletAt 92 = .ok (.getfield 294, 3) := by decide +kernel
theorem dX11_tupletAt_95 : decode cX11_tupletAt 95 = .ok (.invokevirtual 98, 3) := by decide +kernel
theorem dX11_tupletAt_98 : decode cX11_tupletAt 98 = .ok (.ireturn, 1) := by decide +kernel
theorem dX11_tupletAt_99 : decode cX11_tupletAt 99 = .ok (.aload_n 0, 1) := by decide +kernel
theorem dX11_tupletAt_100 : decode cX11_tupletAt 100 = .ok (.aload_n 3, 1) := by decide +kernel
theorem dX11_tupletAt_101 : decode cX11_tupletAt 101 = .ok (.getfield 297, 3) := by decide +kernel
theorem dX11_tupletAt_104 : decode cX11_tupletAt 104 = .ok (.invokevirtual 98, 3) := by decide +kernel
theorem dX11_tupletAt_107 : decode cX11_tupletAt 107 = .ok (.ireturn, 1) := by decide +kernel
theorem dX11_tupletAt_108 : decode cX11_tupletAt 108 = .ok (.aload_n 0, 1) := by decide +kernel
theorem dX11_tupletAt_109 : decode cX11_tupletAt 109 = .ok (.aload_n 3, 1) := by decide +kernel
theorem dX11_tupletAt_110 : decode cX11_tupletAt 110 = .ok (.getfield 300, 3) := by decide +kernel
theorem dX11_tupletAt_113 : decode cX11_tupletAt 113 = .ok (.invokevirtual 98, 3) := by decide +kernel
theorem dX11_tupletAt_116 : decode cX11_tupletAt 116 = .ok (.ireturn, 1) := by decide +kernel
theorem dX11_tupletAt_117 : decode cX11_tupletAt 117 = .ok (.aload_n 0, 1) := by decide +kernel
theorem dX11_tupletAt_118 : decode cX11_tupletAt 118 = .ok (.aload_n 0, 1) := by decide +kernel
theorem dX11_tupletAt_119 : decode cX11_tupletAt 119 = .ok (.aload_n 3, 1) := by decide +kernel
theorem dX11_tupletAt_120 : decode cX11_tupletAt 120 = .ok (.invokevirtual 303, 3) := by decide +kernel
theorem dX11_tupletAt_123 : decode cX11_tupletAt 123 = .ok (.invokevirtual 98, 3) := by decide +kernel
theorem dX11_tupletAt_126 : decode cX11_tupletAt 126 = .ok (.ireturn, 1) := by decide +kernel
theorem dX11_tupletAt_127 : decode cX11_tupletAt 127 = .ok (.aload_n 0, 1) := by decide +kernel
theorem dX11_tupletAt_128 : decode cX11_tupletAt 128 = .ok (.bipush (-2), 2) := by decide +kernel
theorem dX11_tupletAt_130 : decode cX11_tupletAt 130 = .ok (.invokevirtual 87, 3) := by decide +kernel
theorem dX11_tupletAt_133 : decode cX11_tupletAt 133 = .ok (.ireturn, 1) := by decide +kernel
theorem dX11_line_0 : decode cX11_line 0 = .ok (.aload_n 0, 1) := by decide +kernel
theorem dX11_line_1 : decode cX11_line 1 = .ok (.iload_n 2, 1) := by decide +kernel
theorem dX11_line_2 : decode cX11_line 2 = .ok (.invokevirtual 155, 3) := by decide +kernel
theorem dX11_line_5 : decode cX11_line 5 = .ok (.astore 4, 2) := by decide +kernel
theorem dX11_line_7 : decode cX11_line 7 = .ok (.iload_n 1, 1) := by decide +kernel
theorem dX11_line_8 : decode cX11_line 8 = .ok (.ifCond .lt 21, 3) := by decide +kernel
theorem dX11_line_11 : decode cX11_line 11 = .ok (.iload_n 1, 1) := by decide +kernel
theorem dX11_line_12 : decode cX11_line 12 = .ok (.iconst 3, 1) := by decide +kernel
theorem dX11_line_13 : decode cX11_line 13 = .ok (.if_icmp .gt 16, 3) := by decide +kernel
theorem dX11_line_16 : decode cX11_line 16 = .ok (.aload 4, 2) := by decide +kernel
theorem dX11_line_18 : decode cX11_line 18 = .ok (.ifnull 11, 3) := by decide +kernel
theorem dX11_line_21 : decode cX11_line 21 = .ok (.aload_n 0, 1) := by decide +kernel
theorem dX11_line_22 : decode cX11_line 22 = .ok (.iload_n 3, 1) := by decide +kernel
theorem dX11_line_23 : decode cX11_line 23 = .ok (.invokevirtual 307, 3) := by decide +kernel
theorem dX11_line_26 : decode cX11_line 26 = .ok (.ifCond .ne 10, 3) := by decide +kernel
theorem dX11_line_29 : decode cX11_line 29 = .ok (.aload_n 0, 1) := by decide +kernel
theorem dX11_line_30 : decode cX11_line 30 = .ok (.bipush (-2), 2) := by decide +kernel
theorem dX11_line_32 : decode cX11_line 32 = .ok (.invokevirtual 87, 3) := by decide +kernel
theorem dX11_line_35 : decode cX11_line 35 = .ok (.ireturn, 1) := by decide +kernel
theorem dX11_line_36 : decode cX11_line 36 = .ok (.aload_n 0, 1) := by decide +kernel
theorem dX11_line_37 : decode cX11_line 37 = .ok (.getfield 56, 3) := by decide +kernel
theorem dX11_line_40 : decode cX11_line 40 = .ok (.bipush 30, 2) := by decide +kernel
theorem dX11_line_42 : decode cX11_line 42 = .ok (.if_icmp .lt 10, 3) := by decide +kernel
theorem dX11_line_45 : decode cX11_line 45 = .ok (.aload_n 0, 1) := by decide +kernel
theorem dX11_line_46 : decode cX11_line 46 = .ok (.bipush (-4), 2) := by decide +kernel
theorem dX11_line_48 : decode cX11_line 48 = .ok (.invokevirtual 87, 3) := by decide +kernel
theorem dX11_line_51 : decode cX11_line 51 = .ok (.ireturn, 1) := by decide +kernel
theorem dX11_line_52 : decode cX11_line 52 = .ok (.aload_n 0, 1) := by decide +kernel
theorem dX11_line_53 : decode cX11_line 53 = .ok (.getfield 52, 3) := by decide +kernel
theorem dX11_line_56 : decode cX11_line 56 = .ok (.aload_n 0, 1) := by decide +kernel
theorem dX11_line_57 : decode cX11_line 57 = .ok (.getfield 56, 3) := by decide +kernel
theorem dX11_line_60 : decode cX11_line 60 = .ok (.new 50, 3) := by decide +kernel
theorem dX11_line_63 : decode cX11_line 63 = .ok (.dup, 1) := by decide +kernel
theorem dX11_line_64 : decode cX11_line 64 = .ok (.iload_n 1, 1) := by decide +kernel
theorem dX11_line_65 : decode cX11_line 65 = .ok (.aload 4, 2) := by decide +kernel
theorem dX11_line_67 : decode cX11_line 67 = .ok (.aload_n 0, 1) := by decide +kernel
theorem dX11_line_68 : decode cX11_line 68 = .ok (.iload_n 3, 1) := by decide +kernel
theorem dX11_line_69 : decode cX11_line 69 = .ok (.invokevirtual 155, 3) := by decide +kernel
theorem dX11_line_72 : decode cX11_line 72 = .ok (.invokespecial 310, 3) := by decide +kernel
theorem dX11_line_75 : decode cX11_line 75 = .ok (.aastore, 1) := by decide +kernel
theorem dX11_line_76 : decode cX11_line 76 = .ok (.aload_n 0, 1) := by decide +kernel
theorem dX11_line_77 : decode cX11_line 77 = .ok (.dup, 1) := by decide +kernel
theorem dX11_line_78 : decode cX11_line 78 = .ok (.getfield 56, 3) := by decide +kernel
theorem dX11_line_81 : decode cX11_line 81 = .ok (.iconst 1, 1) := by decide +kernel
theorem dX11_line_82 : decode cX11_line 82 = .ok (.iadd, 1) := by decide +kernel
theorem dX11_line_83 : decode cX11_line 83 = .ok (.putfield 56, 3) := by decide +kernel
theorem dX11_line_86 : decode cX11_line 86 = .ok (.aload_n 0, 1) := by decide +kernel
theorem dX11_line_87 : decode cX11_line 87 = .ok (.aload_n 0, 1) := by decide +kernel
theorem dX11_line_88 : decode cX11_line 88 = .ok (.getfield 56, 3) := by decide +kernel
theorem dX11_line_91 : decode cX11_line 91 = .ok (.iconst 1, 1) := by decide +kernel
theorem dX11_line_92 : decode cX11_line 92 = .ok (.isub, 1) := by decide +kernel
theorem dX11_line_93 : decode cX11_line 93 = .ok (.invokevirtual 98, 3) := by decide +kernel
theorem dX11_line_96 : decode cX11_line 96 = .ok (.ireturn, 1) := by decide +kernel
theorem dX11_end_0 : decode cX11_end 0 = .ok (.aload_n 0, 1) := by decide +kernel
theorem dX11_end_1 : decode cX11_end 1 = .ok (.iload_n 1, 1) := by decide +kernel
theorem dX11_end_2 : decode cX11_end 2 = .ok (.invokevirtual 313, 3) := by decide +kernel
theorem dX11_end_5 : decode cX11_end 5 = .ok (.astore_n 3, 1) := by decide +kernel
theorem dX11_end_6 : decode cX11_end 6 = .ok (.aload_n 3, 1) := by decide +kernel
theorem dX11_end_7 : decode cX11_end 7 = .ok (.ifnull 11, 3) := by decide +kernel
theorem dX11_end_10 : decode cX11_end 10 = .ok (.aload_n 0, 1) := by decide +kernel
theorem dX11_end_11 : decode cX11_end 11 = .ok (.iload_n 2, 1) := by decide +kernel
theorem dX11_end_12 : decode cX11_end 12 = .ok (.invokevirtual 307, 3) := by decide +kernel
theorem dX11_end_15 : decode cX11_end 15 = .ok (.ifCond .ne 10, 3) := by decide +kernel
theorem dX11_end_18 : decode cX11_end 18 = .ok (.aload_n 0, 1) := by decide +kernel
theorem dX11_end_19 : decode cX11_end 19 = .ok (.bipush (-2), 2) := by decide +kernel
theorem dX11_end_21 : decode cX11_end 21 = .ok (.invokevirtual 87, 3) := by decide +kernel
theorem dX11_end_24 : decode cX11_end 24 = .ok (.ireturn, 1) := by decide +kernel
theorem dX11_end_25 : decode cX11_end 25 = .ok (.aload_n 3, 1) := by decide +kernel
theorem dX11_end_26 : decode cX11_end 26 = .ok (.aload_n 0, 1) := by decide +kernel
theorem dX11_end_27 : decode cX11_end 27 = .ok (.iload_n 2, 1) := by decide +kernel
theorem dX11_end_28 : decode cX11_end 28 = .ok (.invokevirtual 155, 3) := by decide +kernel
theorem dX11_end_31 : decode cX11_end 31 = .ok (.putfield 317, 3) := by decide +kernel
theorem dX11_end_34 : decode cX11_end 34 = .ok (.aload_n 0, 1) := by decide +kernel
theorem dX11_end_35 : decode cX11_end 35 = .ok (.iconst 1, 1) := by decide +kernel
theorem dX11_end_36 : decode cX11_end 36 = .ok (.invokevirtual 98, 3) := by decide +kernel
theorem dX11_end_39 : decode cX11_end 39 = .ok (.ireturn, 1) := by decide +kernel
theorem dX11_lineAt_0 : decode cX11_lineAt 0 = .ok (.aload_n 0, 1) := by decide +kernel
theorem dX11_lineAt_1 : decode cX11_lineAt 1 = .ok (.iload_n 1, 1) := by decide +kernel
theorem dX11_lineAt_2 : decode cX11_lineAt 2 = .ok (.invokevirtual 313, 3) := by decide +kernel
theorem dX11_lineAt_5 : decode cX11_lineAt 5 = .ok (.astore_n 3, 1) := by decide +kernel
theorem dX11_lineAt_6 : decode cX11_lineAt 6 = .ok (.aload_n 3, 1) := by decide +kernel
theorem dX11_lineAt_7 : decode cX11_lineAt 7 = .ok (.ifnonnull 10, 3) := by decide +kernel
theorem dX11_lineAt_10 : decode cX11_lineAt 10 = .ok (.aload_n 0, 1) := by decide +kernel
theorem dX11_lineAt_11 : decode cX11_lineAt 11 = .ok (.bipush (-2), 2) := by decide +kernel
theorem dX11_lineAt_13 : decode cX11_lineAt 13 = .ok (.invokevirtual 87, 3) := by decide +kernel
theorem dX11_lineAt_16 : decode cX11_lineAt 16 = .ok (.ireturn, 1) := by decide +kernel
theorem dX11_lineAt_17 : decode cX11_lineAt 17 = .ok (.iload_n 2, 1) := by decide +kernel
theorem dX11_lineAt_18 : decode cX11_lineAt 18 = .ok (.tableswitch 70 0 2 #[26, 35, 47], 26) := by decide +kernel
theorem dX11_lineAt_44 : decode cX11_lineAt 44 = .ok (.aload_n 0, 1) := by decide +kernel
theorem dX11_lineAt_45 : decode cX11_lineAt 45 = .ok (.aload_n 3, 1) := by decide +kernel
theorem dX11_lineAt_46 : decode cX11_lineAt 46 = .ok (.getfield 321, 3) := by decide +kernel
theorem dX11_lineAt_49 : decode cX11_lineAt 49 = .ok (.invokevirtual 98, 3) := by decide +kernel
theorem dX11_lineAt_52 : decode cX11_lineAt 52 = .ok (.ireturn, 1) := by decide +kernel
theorem dX11_lineAt_53 : decode cX11_lineAt 53 = .ok (.aload_n 0, 1) := by decide +kernel
theorem dX11_lineAt_54 : decode cX11_lineAt 54 = .ok (.aload_n 3, 1) := by decide +kernel
theorem dX11_lineAt_55 : decode cX11_lineAt 55 = .ok (.getfield 322, 3) := by decide +kernel
theorem dX11_lineAt_58 : decode cX11_lineAt 58 = .ok (.getfield 152, 3) := by decide +kernel
theorem dX11_lineAt_61 : decode cX11_lineAt 61 = .ok (.invokevirtual 98, 3) := by decide +kernel
theorem dX11_lineAt_64 : decode cX11_lineAt 64 = .ok (.ireturn, 1) := by decide +kernel
theorem dX11_lineAt_65 : decode cX11_lineAt 65 = .ok (.aload_n 0, 1) := by decide +kernel
theorem dX11_lineAt_66 : decode cX11_lineAt 66 = .ok (.aload_n 3, 1) := by decide +kernel
theorem dX11_lineAt_67 : decode cX11_lineAt 67 = .ok (.getfield 317, 3) := by decide +kernel
theorem dX11_lineAt_70 : decode cX11_lineAt 70 = .ok (.ifnonnull 7, 3) := by decide +kernel
theorem dX11_lineAt_73 : decode cX11_lineAt 73 = .ok (.iconst (-1), 1) := by decide +kernel
theorem dX11_lineAt_74 : decode cX11_lineAt 74 = .ok (.goto 10, 3) := by decide +kernel
theorem dX11_lineAt_77 : decode cX11_lineAt 77 = .ok (.aload_n 3, 1) := by decide +kernel
theorem dX11_lineAt_78 : decode cX11_lineAt 78 = .ok (.getfield 317, 3) := by decide +kernel
theorem dX11_lineAt_81 : decode cX11_lineAt 81 = .ok (.getfield 152, 3) := by decide +kernel
theorem dX11_lineAt_84 : decode cX11_lineAt 84 = .ok (.invokevirtual 98, 3) := by decide +kernel
theorem dX11_lineAt_87 : decode cX11_lineAt 87 = .ok (.ireturn, 1) := by decide +kernel
theorem dX11_lineAt_88 : decode cX11_lineAt 88 = .ok (.aload_n 0, 1) := by decide +kernel
theorem dX11_lineAt_89 : decode cX11_lineAt 89 = .ok (.bipush (-2), 2) := by decide +kernel
theorem dX11_lineAt_91 : decode cX11_lineAt 91 = .ok (.invokevirtual 87, 3) := by decide +kernel
theorem dX11_lineAt_94 : decode cX11_lineAt 94 = .ok (.ireturn, 1) := by decide +kernel
theorem dX11_walk_0 : decode cX11_walk 0 = .ok (.aload_n 0, 1) := by decide +kernel
theorem dX11_walk_1 : decode cX11_walk 1 = .ok (.getfield 15, 3) := by decide +kernel
theorem dX11_walk_4 : decode cX11_walk 4 = .ok (.iconst 3, 1) := by decide +kernel
theorem dX11_walk_5 : decode cX11_walk 5 = .ok (.imul, 1) := by decide +kernel
theorem dX11_walk_6 : decode cX11_walk 6 = .ok (.istore_n 1, 1) := by decide +kernel
theorem dX11_walk_7 : decode cX11_walk 7 = .ok (.iconst 0, 1) := by decide +kernel
theorem dX11_walk_8 : decode cX11_walk 8 = .ok (.istore_n 2, 1) := by decide +kernel
theorem dX11_walk_9 : decode cX11_walk 9 = .ok (.iload_n 2, 1) := by decide +kernel
theorem dX11_walk_10 : decode cX11_walk 10 = .ok (.iload_n 1, 1) := by decide +kernel
theorem dX11_walk_11 : decode cX11_walk 11 = .ok (.if_icmp .ge 19, 3) := by decide +kernel
theorem dX11_walk_14 : decode cX11_walk 14 = .ok (.aload_n 0, 1) := by decide +kernel
theorem dX11_walk_15 : decode cX11_walk 15 = .ok (.getfield 21, 3) := by decide +kernel
theorem dX11_walk_18 : decode cX11_walk 18 = .ok (.iload_n 2, 1) := by decide +kernel
theorem dX11_walk_19 : decode cX11_walk 19 = .ok (.aaload, 1) := by decide +kernel
theorem dX11_walk_20 : decode cX11_walk 20 = .ok (.iconst 0, 1) := by decide +kernel
theorem dX11_walk_21 : decode cX11_walk 21 = .ok (.putfield 325, 3) := by decide +kernel
theorem dX11_walk_24 : decode cX11_walk 24 = .ok (.iinc 2 1, 3) := by decide +kernel
theorem dX11_walk_27 : decode cX11_walk 27 = .ok (.goto (-18), 3) := by decide +kernel
theorem dX11_walk_30 : decode cX11_walk 30 = .ok (.aload_n 0, 1) := by decide +kernel
theorem dX11_walk_31 : decode cX11_walk 31 = .ok (.iconst 0, 1) := by decide +kernel
theorem dX11_walk_32 : decode cX11_walk 32 = .ok (.putfield 63, 3) := by decide +kernel
theorem dX11_walk_35 : decode cX11_walk 35 = .ok (.iconst 0, 1) := by decide +kernel
theorem dX11_walk_36 : decode cX11_walk 36 = .ok (.istore_n 2, 1) := by decide +kernel
theorem dX11_walk_37 : decode cX11_walk 37 = .ok (.iload_n 2, 1) := by decide +kernel
theorem dX11_walk_38 : decode cX11_walk 38 = .ok (.sipush 150, 3) := by decide +kernel
theorem dX11_walk_41 : decode cX11_walk 41 = .ok (.if_icmp .ge 55, 3) := by decide +kernel
theorem dX11_walk_44 : decode cX11_walk 44 = .ok (.aload_n 0, 1) := by decide +kernel
theorem dX11_walk_45 : decode cX11_walk 45 = .ok (.iload_n 1, 1) := by decide +kernel
theorem dX11_walk_46 : decode cX11_walk 46 = .ok (.invokevirtual 328, 3) := by decide +kernel
theorem dX11_walk_49 : decode cX11_walk 49 = .ok (.astore_n 3, 1) := by decide +kernel
theorem dX11_walk_50 : decode cX11_walk 50 = .ok (.aload_n 3, 1) := by decide +kernel
theorem dX11_walk_51 : decode cX11_walk 51 = .ok (.ifnonnull 6, 3) := by decide +kernel
theorem dX11_walk_54 : decode cX11_walk 54 = .ok (.goto 42, 3) := by decide +kernel
theorem dX11_walk_57 : decode cX11_walk 57 = .ok (.aload_n 0, 1) := by decide +kernel
theorem dX11_walk_58 : decode cX11_walk 58 = .ok (.getfield 59, 3) := by decide +kernel
theorem dX11_walk_61 : decode cX11_walk 61 = .ok (.iload_n 2, 1) := by decide +kernel
theorem dX11_walk_62 : decode cX11_walk 62 = .ok (.aload_n 3, 1) := by decide +kernel
theorem dX11_walk_63 : decode cX11_walk 63 = .ok (.getfield 152, 3) := by decide +kernel
theorem dX11_walk_66 : decode cX11_walk 66 = .ok (.iastore, 1) := by decide +kernel
theorem dX11_walk_67 : decode cX11_walk 67 = .ok (.aload_n 3, 1) := by decide +kernel
theorem dX11_walk_68 : decode cX11_walk 68 = .ok (.getfield 162, 3) := by decide +kernel
theorem dX11_walk_71 : decode cX11_walk 71 = .ok (.dup, 1) := by decide +kernel
theorem dX11_walk_72 : decode cX11_walk 72 = .ok (.getfield 325, 3) := by decide +kernel
theorem dX11_walk_75 : decode cX11_walk 75 = .ok (.iconst 1, 1) := by decide +kernel
theorem dX11_walk_76 : decode cX11_walk 76 = .ok (.iadd, 1) := by decide +kernel
theorem dX11_walk_77 : decode cX11_walk 77 = .ok (.putfield 325, 3) := by decide +kernel
theorem dX11_walk_80 : decode cX11_walk 80 = .ok (.aload_n 0, 1) := by decide +kernel
theorem dX11_walk_81 : decode cX11_walk 81 = .ok (.dup, 1) := by decide +kernel
theorem dX11_walk_82 : decode cX11_walk 82 = .ok (.getfield 63, 3) := by decide +kernel
theorem dX11_walk_85 : decode cX11_walk 85 = .ok (.iconst 1, 1) := by decide +kernel
theorem dX11_walk_86 : decode cX11_walk 86 = .ok (.iadd, 1) := by decide +kernel
theorem dX11_walk_87 : decode cX11_walk 87 = .ok (.putfield 63, 3) := by decide +kernel
theorem dX11_walk_90 : decode cX11_walk 90 = .ok (.iinc 2 1, 3) := by decide +kernel
theorem dX11_walk_93 : decode cX11_walk 93 = .ok (.goto (-56), 3) := by decide +kernel
theorem dX11_walk_96 : decode cX11_walk 96 = .ok (.aload_n 0, 1) := by decide +kernel
theorem dX11_walk_97 : decode cX11_walk 97 = .ok (.aload_n 0, 1) := by decide +kernel
theorem dX11_walk_98 : decode cX11_walk 98 = .ok (.getfield 63, 3) := by decide +kernel
theorem dX11_walk_101 : decode cX11_walk 101 = .ok (.invokevirtual 98, 3) := by decide +kernel
theorem dX11_walk_104 : decode cX11_walk 104 = .ok (.ireturn, 1) := by decide +kernel
theorem dX11_walked_0 : decode cX11_walked 0 = .ok (.aload_n 0, 1) := by decide +kernel
theorem dX11_walked_1 : decode cX11_walked 1 = .ok (.iload_n 1, 1) := by decide +kernel
theorem dX11_walked_2 : decode cX11_walked 2 = .ok (.ifCond .lt 11, 3) := by decide +kernel
theorem dX11_walked_5 : decode cX11_walked 5 = .ok (.iload_n 1, 1) := by decide +kernel
theorem dX11_walked_6 : decode cX11_walked 6 = .ok (.aload_n 0, 1) := by decide +kernel
theorem dX11_walked_7 : decode cX11_walked 7 = .ok (.getfield 63, 3) := by decide +kernel
theorem dX11_walked_10 : decode cX11_walked 10 = .ok (.if_icmp .lt 7, 3) := by decide +kernel
theorem dX11_walked_13 : decode cX11_walked 13 = .ok (.iconst (-1), 1) := by decide +kernel
theorem dX11_walked_14 : decode cX11_walked 14 = .ok (.goto 9, 3) := by decide +kernel
theorem dX11_walked_17 : decode cX11_walked 17 = .ok (.aload_n 0, 1) := by decide +kernel
theorem dX11_walked_18 : decode cX11_walked 18 = .ok (.getfield 59, 3) := by decide +kernel
theorem dX11_walked_21 : decode cX11_walked 21 = .ok (.iload_n 1, 1) := by decide +kernel
theorem dX11_walked_22 : decode cX11_walked 22 = .ok (.iaload, 1) := by decide +kernel
theorem dX11_walked_23 : decode cX11_walked 23 = .ok (.invokevirtual 98, 3) := by decide +kernel
theorem dX11_walked_26 : decode cX11_walked 26 = .ok (.ireturn, 1) := by decide +kernel
theorem dX11_check_0 : decode cX11_check 0 = .ok (.aload_n 0, 1) := by decide +kernel
theorem dX11_check_1 : decode cX11_check 1 = .ok (.iconst 0, 1) := by decide +kernel
theorem dX11_check_2 : decode cX11_check 2 = .ok (.putfield 69, 3) := by decide +kernel
theorem dX11_check_5 : decode cX11_check 5 = .ok (.aload_n 0, 1) := by decide +kernel
theorem dX11_check_6 : decode cX11_check 6 = .ok (.getfield 15, 3) := by decide +kernel
theorem dX11_check_9 : decode cX11_check 9 = .ok (.iconst 3, 1) := by decide +kernel
theorem dX11_check_10 : decode cX11_check 10 = .ok (.imul, 1) := by decide +kernel
theorem dX11_check_11 : decode cX11_check 11 = .ok (.istore_n 1, 1) := by decide +kernel
theorem dX11_check_12 : decode cX11_check 12 = .ok (.iconst 0, 1) := by decide +kernel
theorem dX11_check_13 : decode cX11_check 13 = .ok (.istore_n 2, 1) := by decide +kernel
theorem dX11_check_14 : decode cX11_check 14 = .ok (.iload_n 2, 1) := by decide +kernel
theorem dX11_check_15 : decode cX11_check 15 = .ok (.iload_n 1, 1) := by decide +kernel
theorem dX11_check_16 : decode cX11_check 16 = .ok (.if_icmp .ge 19, 3) := by decide +kernel
theorem dX11_check_19 : decode cX11_check 19 = .ok (.aload_n 0, 1) := by decide +kernel
theorem dX11_check_20 : decode cX11_check 20 = .ok (.aload_n 0, 1) := by decide +kernel
theorem dX11_check_21 : decode cX11_check 21 = .ok (.getfield 21, 3) := by decide +kernel
theorem dX11_check_24 : decode cX11_check 24 = .ok (.iload_n 2, 1) := by decide +kernel
theorem dX11_check_25 : decode cX11_check 25 = .ok (.aaload, 1) := by decide +kernel
theorem dX11_check_26 : decode cX11_check 26 = .ok (.invokevirtual 331, 3) := by decide +kernel
theorem dX11_check_29 : decode cX11_check 29 = .ok (.iinc 2 1, 3) := by decide +kernel
theorem dX11_check_32 : decode cX11_check 32 = .ok (.goto (-18), 3) := by decide +kernel
theorem dX11_check_35 : decode cX11_check 35 = .ok (.iconst 0, 1) := by decide +kernel
theorem dX11_check_36 : decode cX11_check 36 = .ok (.istore_n 2, 1) := by decide +kernel
theorem dX11_check_37 : decode cX11_check 37 = .ok (.iload_n 2, 1) := by decide +kernel
theorem dX11_check_38 : decode cX11_check 38 = .ok (.aload_n 0, 1) := by decide +kernel
theorem dX11_check_39 : decode cX11_check 39 = .ok (.getfield 47, 3) := by decide +kernel
theorem dX11_check_42 : decode cX11_check 42 = .ok (.if_icmp .ge 38, 3) := by decide +kernel
theorem dX11_check_45 : decode cX11_check 45 = .ok (.aload_n 0, 1) := by decide +kernel
theorem dX11_check_46 : decode cX11_check 46 = .ok (.getfield 43, 3) := by decide +kernel
theorem dX11_check_49 : decode cX11_check 49 = .ok (.iload_n 2, 1) := by decide +kernel
theorem dX11_check_50 : decode cX11_check 50 = .ok (.aaload, 1) := by decide +kernel
theorem dX11_check_51 : decode cX11_check 51 = .ok (.ifnull 23, 3) := by decide +kernel
theorem dX11_check_54 : decode cX11_check 54 = .ok (.aload_n 0, 1) := by decide +kernel
theorem dX11_check_55 : decode cX11_check 55 = .ok (.aload_n 0, 1) := by decide +kernel
theorem dX11_check_56 : decode cX11_check 56 = .ok (.getfield 43, 3) := by decide +kernel
theorem dX11_check_59 : decode cX11_check 59 = .ok (.iload_n 2, 1) := by decide +kernel
theorem dX11_check_60 : decode cX11_check 60 = .ok (.aaload, 1) := by decide +kernel
theorem dX11_check_61 : decode cX11_check 61 = .ok (.invokevirtual 334, 3) := by decide +kernel
theorem dX11_check_64 : decode cX11_check 64 = .ok (.ifCond .ne 10, 3) := by decide +kernel
theorem dX11_check_67 : decode cX11_check 67 = .ok (.aload_n 0, 1) := by decide +kernel
theorem dX11_check_68 : decode cX11_check 68 = .ok (.iconst 5, 1) := by decide +kernel
theorem dX11_check_69 : decode cX11_check 69 = .ok (.iload_n 2, 1) := by decide +kernel
theorem dX11_check_70 : decode cX11_check 70 = .ok (.iconst (-1), 1) := by decide +kernel
theorem dX11_check_71 : decode cX11_check 71 = .ok (.invokevirtual 338, 3) := by decide +kernel
theorem dX11_check_74 : decode cX11_check 74 = .ok (.iinc 2 1, 3) := by decide +kernel
theorem dX11_check_77 : decode cX11_check 77 = .ok (.goto (-40), 3) := by decide +kernel
theorem dX11_check_80 : decode cX11_check 80 = .ok (.iconst 0, 1) := by decide +kernel
theorem dX11_check_81 : decode cX11_check 81 = .ok (.istore_n 2, 1) := by decide +kernel
theorem dX11_check_82 : decode cX11_check 82 = .ok (.iload_n 2, 1) := by decide +kernel
theorem dX11_check_83 : decode cX11_check 83 = .ok (.aload_n 0, 1) := by decide +kernel
theorem dX11_check_84 : decode cX11_check 84 = .ok (.getfield 56, 3) := by decide +kernel
theorem dX11_check_87 : decode cX11_check 87 = .ok (.if_icmp .ge 29, 3) := by decide +kernel
theorem dX11_check_90 : decode cX11_check 90 = .ok (.aload_n 0, 1) := by decide +kernel
theorem dX11_check_91 : decode cX11_check 91 = .ok (.getfield 52, 3) := by decide +kernel
theorem dX11_check_94 : decode cX11_check 94 = .ok (.iload_n 2, 1) := by decide +kernel
theorem dX11_check_95 : decode cX11_check 95 = .ok (.aaload, 1) := by decide +kernel
theorem dX11_check_96 : decode cX11_check 96 = .ok (.ifnull 14, 3) := by decide +kernel
theorem dX11_check_99 : decode cX11_check 99 = .ok (.aload_n 0, 1) := by decide +kernel
theorem dX11_check_100 : decode cX11_check 100 = .ok (.aload_n 0, 1) := by decide +kernel
theorem dX11_check_101 : decode cX11_check 101 = .ok (.getfield 52, 3) := by decide +kernel
theorem dX11_check_104 : decode cX11_check 104 = .ok (.iload_n 2, 1) := by decide +kernel
theorem dX11_check_105 : decode cX11_check 105 = .ok (.aaload, 1) := by decide +kernel
theorem dX11_check_106 : decode cX11_check 106 = .ok (.iload_n 2, 1) := by decide +kernel
theorem dX11_check_107 : decode cX11_check 107 = .ok (.invokevirtual 342, 3) := by decide +kernel
theorem dX11_check_110 : decode cX11_check 110 = .ok (.iinc 2 1, 3) := by decide +kernel
theorem dX11_check_113 : decode cX11_check 113 = .ok (.goto (-31), 3) := by decide +kernel
theorem dX11_check_116 : decode cX11_check 116 = .ok (.aload_n 0, 1) := by decide +kernel
theorem dX11_check_117 : decode cX11_check 117 = .ok (.aload_n 0, 1) := by decide +kernel
theorem dX11_check_118 : decode cX11_check 118 = .ok (.getfield 69, 3) := by decide +kernel
theorem dX11_check_121 : decode cX11_check 121 = .ok (.invokevirtual 98, 3) := by decide +kernel
theorem dX11_check_124 : decode cX11_check 124 = .ok (.ireturn, 1) := by decide +kernel
theorem dX11_finding_0 : decode cX11_finding 0 = .ok (.iload_n 2, 1) := by decide +kernel
theorem dX11_finding_1 : decode cX11_finding 1 = .ok (.ifCond .lt 8, 3) := by decide +kernel
theorem dX11_finding_4 : decode cX11_finding 4 = .ok (.iload_n 2, 1) := by decide +kernel
theorem dX11_finding_5 : decode cX11_finding 5 = .ok (.iconst 3, 1) := by decide +kernel
theorem dX11_finding_6 : decode cX11_finding 6 = .ok (.if_icmp .lt 10, 3) := by decide +kernel
theorem dX11_finding_9 : decode cX11_finding 9 = .ok (.aload_n 0, 1) := by decide +kernel
theorem dX11_finding_10 : decode cX11_finding 10 = .ok (.bipush (-2), 2) := by decide +kernel
theorem dX11_finding_12 : decode cX11_finding 12 = .ok (.invokevirtual 87, 3) := by decide +kernel
theorem dX11_finding_15 : decode cX11_finding 15 = .ok (.ireturn, 1) := by decide +kernel
theorem dX11_finding_16 : decode cX11_finding 16 = .ok (.iload_n 1, 1) := by decide +kernel
theorem dX11_finding_17 : decode cX11_finding 17 = .ok (.ifCond .lt 16, 3) := by decide +kernel
theorem dX11_finding_20 : decode cX11_finding 20 = .ok (.iload_n 1, 1) := by decide +kernel
theorem dX11_finding_21 : decode cX11_finding 21 = .ok (.aload_n 0, 1) := by decide +kernel
theorem dX11_finding_22 : decode cX11_finding 22 = .ok (.getfield 69, 3) := by decide +kernel
theorem dX11_finding_25 : decode cX11_finding 25 = .ok (.bipush 100, 2) := by decide +kernel
theorem dX11_finding_27 : decode cX11_finding 27 = .ok (.invokestatic 346, 3) := by decide +kernel
theorem dX11_finding_30 : decode cX11_finding 30 = .ok (.if_icmp .lt 9, 3) := by decide +kernel
theorem dX11_finding_33 : decode cX11_finding 33 = .ok (.aload_n 0, 1) := by decide +kernel
theorem dX11_finding_34 : decode cX11_finding 34 = .ok (.iconst (-1), 1) := by decide +kernel
theorem dX11_finding_35 : decode cX11_finding 35 = .ok (.invokevirtual 98, 3) := by decide +kernel
theorem dX11_finding_38 : decode cX11_finding 38 = .ok (.ireturn, 1) := by decide +kernel
theorem dX11_finding_39 : decode cX11_finding 39 = .ok (.aload_n 0, 1) := by decide +kernel
theorem dX11_finding_40 : decode cX11_finding 40 = .ok (.aload_n 0, 1) := by decide +kernel
theorem dX11_finding_41 : decode cX11_finding 41 = .ok (.getfield 66, 3) := by decide +kernel
theorem dX11_finding_44 : decode cX11_finding 44 = .ok (.iload_n 1, 1) := by decide +kernel
theorem dX11_finding_45 : decode cX11_finding 45 = .ok (.iconst 3, 1) := by decide +kernel
theorem dX11_finding_46 : decode cX11_finding 46 = .ok (.imul, 1) := by decide +kernel
theorem dX11_finding_47 : decode cX11_finding 47 = .ok (.iload_n 2, 1) := by decide +kernel
theorem dX11_finding_48 : decode cX11_finding 48 = .ok (.iadd, 1) := by decide +kernel
theorem dX11_finding_49 : decode cX11_finding 49 = .ok (.iaload, 1) := by decide +kernel
theorem dX11_finding_50 : decode cX11_finding 50 = .ok (.invokevirtual 98, 3) := by decide +kernel
theorem dX11_finding_53 : decode cX11_finding 53 = .ok (.ireturn, 1) := by decide +kernel
theorem dX11_equal_0 : decode cX11_equal 0 = .ok (.aload_n 0, 1) := by decide +kernel
theorem dX11_equal_1 : decode cX11_equal 1 = .ok (.iload_n 1, 1) := by decide +kernel
theorem dX11_equal_2 : decode cX11_equal 2 = .ok (.invokevirtual 112, 3) := by decide +kernel
theorem dX11_equal_5 : decode cX11_equal 5 = .ok (.astore_n 3, 1) := by decide +kernel
theorem dX11_equal_6 : decode cX11_equal 6 = .ok (.aload_n 0, 1) := by decide +kernel
theorem dX11_equal_7 : decode cX11_equal 7 = .ok (.iload_n 2, 1) := by decide +kernel
theorem dX11_equal_8 : decode cX11_equal 8 = .ok (.invokevirtual 112, 3) := by decide +kernel
theorem dX11_equal_11 : decode cX11_equal 11 = .ok (.astore 4, 2) := by decide +kernel
theorem dX11_equal_13 : decode cX11_equal 13 = .ok (.aload_n 3, 1) := by decide +kernel
theorem dX11_equal_14 : decode cX11_equal 14 = .ok (.ifnull 8, 3) := by decide +kernel
theorem dX11_equal_17 : decode cX11_equal 17 = .ok (.aload 4, 2) := by decide +kernel
theorem dX11_equal_19 : decode cX11_equal 19 = .ok (.ifnonnull 10, 3) := by decide +kernel
theorem dX11_equal_22 : decode cX11_equal 22 = .ok (.aload_n 0, 1) := by decide +kernel
theorem dX11_equal_23 : decode cX11_equal 23 = .ok (.bipush (-2), 2) := by decide +kernel
theorem dX11_equal_25 : decode cX11_equal 25 = .ok (.invokevirtual 87, 3) := by decide +kernel
theorem dX11_equal_28 : decode cX11_equal 28 = .ok (.ireturn, 1) := by decide +kernel
theorem dX11_equal_29 : decode cX11_equal 29 = .ok (.aload_n 0, 1) := by decide +kernel
theorem dX11_equal_30 : decode cX11_equal 30 = .ok (.aload_n 3, 1) := by decide +kernel
theorem dX11_equal_31 : decode cX11_equal 31 = .ok (.aload 4, 2) := by decide +kernel
theorem dX11_equal_33 : decode cX11_equal 33 = .ok (.invokevirtual 351, 3) := by decide +kernel
theorem dX11_equal_36 : decode cX11_equal 36 = .ok (.ifCond .eq 17, 3) := by decide +kernel
theorem dX11_equal_39 : decode cX11_equal 39 = .ok (.aload_n 0, 1) := by decide +kernel
theorem dX11_equal_40 : decode cX11_equal 40 = .ok (.aload_n 3, 1) := by decide +kernel
theorem dX11_equal_41 : decode cX11_equal 41 = .ok (.aload 4, 2) := by decide +kernel
theorem dX11_equal_43 : decode cX11_equal 43 = .ok (.invokevirtual 355, 3) := by decide +kernel
theorem dX11_equal_46 : decode cX11_equal 46 = .ok (.ifCond .eq 7, 3) := by decide +kernel
theorem dX11_equal_49 : decode cX11_equal 49 = .ok (.iconst 1, 1) := by decide +kernel
theorem dX11_equal_50 : decode cX11_equal 50 = .ok (.goto 4, 3) := by decide +kernel
theorem dX11_equal_53 : decode cX11_equal 53 = .ok (.iconst 0, 1) := by decide +kernel
theorem dX11_equal_54 : decode cX11_equal 54 = .ok (.invokevirtual 98, 3) := by decide +kernel
theorem dX11_equal_57 : decode cX11_equal 57 = .ok (.ireturn, 1) := by decide +kernel
theorem dX11_rack_0 : decode cX11_rack 0 = .ok (.iload_n 1, 1) := by decide +kernel
theorem dX11_rack_1 : decode cX11_rack 1 = .ok (.invokestatic 359, 3) := by decide +kernel
theorem dX11_rack_4 : decode cX11_rack 4 = .ok (.ifCond .eq 18, 3) := by decide +kernel
theorem dX11_rack_7 : decode cX11_rack 7 = .ok (.iload_n 2, 1) := by decide +kernel
theorem dX11_rack_8 : decode cX11_rack 8 = .ok (.ifCond .lt 14, 3) := by decide +kernel
theorem dX11_rack_11 : decode cX11_rack 11 = .ok (.iload_n 2, 1) := by decide +kernel
theorem dX11_rack_12 : decode cX11_rack 12 = .ok (.iconst 5, 1) := by decide +kernel
theorem dX11_rack_13 : decode cX11_rack 13 = .ok (.if_icmp .gt 9, 3) := by decide +kernel
theorem dX11_rack_16 : decode cX11_rack 16 = .ok (.iload_n 3, 1) := by decide +kernel
theorem dX11_rack_17 : decode cX11_rack 17 = .ok (.bipush 20, 2) := by decide +kernel
theorem dX11_rack_19 : decode cX11_rack 19 = .ok (.if_icmp .le 10, 3) := by decide +kernel
theorem dX11_rack_22 : decode cX11_rack 22 = .ok (.aload_n 0, 1) := by decide +kernel
theorem dX11_rack_23 : decode cX11_rack 23 = .ok (.bipush (-2), 2) := by decide +kernel
theorem dX11_rack_25 : decode cX11_rack 25 = .ok (.invokevirtual 87, 3) := by decide +kernel
theorem dX11_rack_28 : decode cX11_rack 28 = .ok (.ireturn, 1) := by decide +kernel
theorem dX11_rack_29 : decode cX11_rack 29 = .ok (.iload_n 3, 1) := by decide +kernel
theorem dX11_rack_30 : decode cX11_rack 30 = .ok (.ifCond .ge 10, 3) := by decide +kernel
theorem dX11_rack_33 : decode cX11_rack 33 = .ok (.aload_n 0, 1) := by decide +kernel
theorem dX11_rack_34 : decode cX11_rack 34 = .ok (.bipush (-15), 2) := by decide +kernel
theorem dX11_rack_36 : decode cX11_rack 36 = .ok (.invokevirtual 180, 3) := by decide +kernel
theorem dX11_rack_39 : decode cX11_rack 39 = .ok (.ireturn, 1) := by decide +kernel
theorem dX11_rack_40 : decode cX11_rack 40 = .ok (.aload_n 0, 1) := by decide +kernel
theorem dX11_rack_41 : decode cX11_rack 41 = .ok (.getfield 74, 3) := by decide +kernel
theorem dX11_rack_44 : decode cX11_rack 44 = .ok (.iload_n 1, 1) := by decide +kernel
theorem dX11_rack_45 : decode cX11_rack 45 = .ok (.new 72, 3) := by decide +kernel
theorem dX11_rack_48 : decode cX11_rack 48 = .ok (.dup, 1) := by decide +kernel
theorem dX11_rack_49 : decode cX11_rack 49 = .ok (.iload_n 2, 1) := by decide +kernel
theorem dX11_rack_50 : decode cX11_rack 50 = .ok (.iload_n 3, 1) := by decide +kernel
theorem dX11_rack_51 : decode cX11_rack 51 = .ok (.iconst (-1), 1) := by decide +kernel
theorem dX11_rack_52 : decode cX11_rack 52 = .ok (.invokespecial 362, 3) := by decide +kernel
theorem dX11_rack_55 : decode cX11_rack 55 = .ok (.aastore, 1) := by decide +kernel
theorem dX11_rack_56 : decode cX11_rack 56 = .ok (.aload_n 0, 1) := by decide +kernel
theorem dX11_rack_57 : decode cX11_rack 57 = .ok (.iconst 1, 1) := by decide +kernel
theorem dX11_rack_58 : decode cX11_rack 58 = .ok (.invokevirtual 98, 3) := by decide +kernel
theorem dX11_rack_61 : decode cX11_rack 61 = .ok (.ireturn, 1) := by decide +kernel
theorem dX11_hold_0 : decode cX11_hold 0 = .ok (.aload_n 0, 1) := by decide +kernel
theorem dX11_hold_1 : decode cX11_hold 1 = .ok (.iload_n 3, 1) := by decide +kernel
theorem dX11_hold_2 : decode cX11_hold 2 = .ok (.invokevirtual 155, 3) := by decide +kernel
theorem dX11_hold_5 : decode cX11_hold 5 = .ok (.astore 4, 2) := by decide +kernel
theorem dX11_hold_7 : decode cX11_hold 7 = .ok (.iload_n 1, 1) := by decide +kernel
theorem dX11_hold_8 : decode cX11_hold 8 = .ok (.invokestatic 359, 3) := by decide +kernel
theorem dX11_hold_11 : decode cX11_hold 11 = .ok (.ifCond .eq 13, 3) := by decide +kernel
theorem dX11_hold_14 : decode cX11_hold 14 = .ok (.aload 4, 2) := by decide +kernel
theorem dX11_hold_16 : decode cX11_hold 16 = .ok (.ifnonnull 15, 3) := by decide +kernel
theorem dX11_hold_19 : decode cX11_hold 19 = .ok (.iload_n 3, 1) := by decide +kernel
theorem dX11_hold_20 : decode cX11_hold 20 = .ok (.iconst (-1), 1) := by decide +kernel
theorem dX11_hold_21 : decode cX11_hold 21 = .ok (.if_icmp .eq 10, 3) := by decide +kernel
theorem dX11_hold_24 : decode cX11_hold 24 = .ok (.aload_n 0, 1) := by decide +kernel
theorem dX11_hold_25 : decode cX11_hold 25 = .ok (.bipush (-2), 2) := by decide +kernel
theorem dX11_hold_27 : decode cX11_hold 27 = .ok (.invokevirtual 87, 3) := by decide +kernel
theorem dX11_hold_30 : decode cX11_hold 30 = .ok (.ireturn, 1) := by decide +kernel
theorem dX11_hold_31 : decode cX11_hold 31 = .ok (.aload_n 0, 1) := by decide +kernel
theorem dX11_hold_32 : decode cX11_hold 32 = .ok (.getfield 74, 3) := by decide +kernel
theorem dX11_hold_35 : decode cX11_hold 35 = .ok (.iload_n 1, 1) := by decide +kernel
theorem dX11_hold_36 : decode cX11_hold 36 = .ok (.aaload, 1) := by decide +kernel
theorem dX11_hold_37 : decode cX11_hold 37 = .ok (.astore 5, 2) := by decide +kernel
theorem dX11_hold_39 : decode cX11_hold 39 = .ok (.aload 5, 2) := by decide +kernel
theorem dX11_hold_41 : decode cX11_hold 41 = .ok (.ifnonnull 10, 3) := by decide +kernel
theorem dX11_hold_44 : decode cX11_hold 44 = .ok (.aload_n 0, 1) := by decide +kernel
theorem dX11_hold_45 : decode cX11_hold 45 = .ok (.bipush (-11), 2) := by decide +kernel
theorem dX11_hold_47 : decode cX11_hold 47 = .ok (.invokevirtual 180, 3) := by decide +kernel
theorem dX11_hold_50 : decode cX11_hold 50 = .ok (.ireturn, 1) := by decide +kernel
theorem dX11_hold_51 : decode cX11_hold 51 = .ok (.aload 5, 2) := by decide +kernel
theorem dX11_hold_53 : decode cX11_hold 53 = .ok (.iload_n 2, 1) := by decide +kernel
theorem dX11_hold_54 : decode cX11_hold 54 = .ok (.invokevirtual 364, 3) := by decide +kernel
theorem dX11_hold_57 : decode cX11_hold 57 = .ok (.ifCond .ne 10, 3) := by decide +kernel
theorem dX11_hold_60 : decode cX11_hold 60 = .ok (.aload_n 0, 1) := by decide +kernel
theorem dX11_hold_61 : decode cX11_hold 61 = .ok (.bipush (-12), 2) := by decide +kernel
theorem dX11_hold_63 : decode cX11_hold 63 = .ok (.invokevirtual 180, 3) := by decide +kernel
theorem dX11_hold_66 : decode cX11_hold 66 = .ok (.ireturn, 1) := by decide +kernel
theorem dX11_hold_67 : decode cX11_hold 67 = .ok (.aload 4, 2) := by decide +kernel
theorem dX11_hold_69 : decode cX11_hold 69 = .ok (.ifnull 23, 3) := by decide +kernel
theorem dX11_hold_72 : decode cX11_hold 72 = .ok (.aload 5, 2) := by decide +kernel
theorem dX11_hold_74 : decode cX11_hold 74 = .ok (.getfield 367, 3) := by decide +kernel
theorem dX11_hold_77 : decode cX11_hold 77 = .ok (.aload 4, 2) := by decide +kernel
theorem dX11_hold_79 : decode cX11_hold 79 = .ok (.invokestatic 368, 3) := by decide +kernel
theorem dX11_hold_82 : decode cX11_hold 82 = .ok (.ifCond .ne 10, 3) := by decide +kernel
theorem dX11_hold_85 : decode cX11_hold 85 = .ok (.aload_n 0, 1) := by decide +kernel
theorem dX11_hold_86 : decode cX11_hold 86 = .ok (.bipush (-14), 2) := by decide +kernel
theorem dX11_hold_88 : decode cX11_hold 88 = .ok (.invokevirtual 180, 3) := by decide +kernel
theorem dX11_hold_91 : decode cX11_hold 91 = .ok (.ireturn, 1) := by decide +kernel
theorem dX11_hold_92 : decode cX11_hold 92 = .ok (.aload 5, 2) := by decide +kernel
theorem dX11_hold_94 : decode cX11_hold 94 = .ok (.getfield 372, 3) := by decide +kernel
theorem dX11_hold_97 : decode cX11_hold 97 = .ok (.iload_n 2, 1) := by decide +kernel
theorem dX11_hold_98 : decode cX11_hold 98 = .ok (.iload_n 3, 1) := by decide +kernel
theorem dX11_hold_99 : decode cX11_hold 99 = .ok (.iastore, 1) := by decide +kernel
theorem dX11_hold_100 : decode cX11_hold 100 = .ok (.aload_n 0, 1) := by decide +kernel
theorem dX11_hold_101 : decode cX11_hold 101 = .ok (.iconst 1, 1) := by decide +kernel
theorem dX11_hold_102 : decode cX11_hold 102 = .ok (.invokevirtual 98, 3) := by decide +kernel
theorem dX11_hold_105 : decode cX11_hold 105 = .ok (.ireturn, 1) := by decide +kernel
theorem dX11_held_0 : decode cX11_held 0 = .ok (.iload_n 1, 1) := by decide +kernel
theorem dX11_held_1 : decode cX11_held 1 = .ok (.invokestatic 359, 3) := by decide +kernel
theorem dX11_held_4 : decode cX11_held 4 = .ok (.ifCond .ne 10, 3) := by decide +kernel
theorem dX11_held_7 : decode cX11_held 7 = .ok (.aload_n 0, 1) := by decide +kernel
theorem dX11_held_8 : decode cX11_held 8 = .ok (.bipush (-2), 2) := by decide +kernel
theorem dX11_held_10 : decode cX11_held 10 = .ok (.invokevirtual 87, 3) := by decide +kernel
theorem dX11_held_13 : decode cX11_held 13 = .ok (.ireturn, 1) := by decide +kernel
theorem dX11_held_14 : decode cX11_held 14 = .ok (.aload_n 0, 1) := by decide +kernel
theorem dX11_held_15 : decode cX11_held 15 = .ok (.getfield 74, 3) := by decide +kernel
theorem dX11_held_18 : decode cX11_held 18 = .ok (.iload_n 1, 1) := by decide +kernel
theorem dX11_held_19 : decode cX11_held 19 = .ok (.aaload, 1) := by decide +kernel
theorem dX11_held_20 : decode cX11_held 20 = .ok (.astore_n 3, 1) := by decide +kernel
theorem dX11_held_21 : decode cX11_held 21 = .ok (.aload_n 3, 1) := by decide +kernel
theorem dX11_held_22 : decode cX11_held 22 = .ok (.ifnonnull 10, 3) := by decide +kernel
theorem dX11_held_25 : decode cX11_held 25 = .ok (.aload_n 0, 1) := by decide +kernel
theorem dX11_held_26 : decode cX11_held 26 = .ok (.bipush (-11), 2) := by decide +kernel
theorem dX11_held_28 : decode cX11_held 28 = .ok (.invokevirtual 180, 3) := by decide +kernel
theorem dX11_held_31 : decode cX11_held 31 = .ok (.ireturn, 1) := by decide +kernel
theorem dX11_held_32 : decode cX11_held 32 = .ok (.aload_n 3, 1) := by decide +kernel
theorem dX11_held_33 : decode cX11_held 33 = .ok (.iload_n 2, 1) := by decide +kernel
theorem dX11_held_34 : decode cX11_held 34 = .ok (.invokevirtual 364, 3) := by decide +kernel
theorem dX11_held_37 : decode cX11_held 37 = .ok (.ifCond .ne 10, 3) := by decide +kernel
theorem dX11_held_40 : decode cX11_held 40 = .ok (.aload_n 0, 1) := by decide +kernel
theorem dX11_held_41 : decode cX11_held 41 = .ok (.bipush (-12), 2) := by decide +kernel
theorem dX11_held_43 : decode cX11_held 43 = .ok (.invokevirtual 180, 3) := by decide +kernel
theorem dX11_held_46 : decode cX11_held 46 = .ok (.ireturn, 1) := by decide +kernel
theorem dX11_held_47 : decode cX11_held 47 = .ok (.aload_n 3, 1) := by decide +kernel
theorem dX11_held_48 : decode cX11_held 48 = .ok (.getfield 372, 3) := by decide +kernel
theorem dX11_held_51 : decode cX11_held 51 = .ok (.iload_n 2, 1) := by decide +kernel
theorem dX11_held_52 : decode cX11_held 52 = .ok (.iaload, 1) := by decide +kernel
theorem dX11_held_53 : decode cX11_held 53 = .ok (.iconst (-1), 1) := by decide +kernel
theorem dX11_held_54 : decode cX11_held 54 = .ok (.if_icmp .ne 10, 3) := by decide +kernel
theorem dX11_held_57 : decode cX11_held 57 = .ok (.aload_n 0, 1) := by decide +kernel
theorem dX11_held_58 : decode cX11_held 58 = .ok (.bipush (-11), 2) := by decide +kernel
theorem dX11_held_60 : decode cX11_held 60 = .ok (.invokevirtual 180, 3) := by decide +kernel
theorem dX11_held_63 : decode cX11_held 63 = .ok (.ireturn, 1) := by decide +kernel
theorem dX11_held_64 : decode cX11_held 64 = .ok (.aload_n 0, 1) := by decide +kernel
theorem dX11_held_65 : decode cX11_held 65 = .ok (.aload_n 3, 1) := by decide +kernel
theorem dX11_held_66 : decode cX11_held 66 = .ok (.getfield 372, 3) := by decide +kernel
theorem dX11_held_69 : decode cX11_held 69 = .ok (.iload_n 2, 1) := by decide +kernel
theorem dX11_held_70 : decode cX11_held 70 = .ok (.iaload, 1) := by decide +kernel
theorem dX11_held_71 : decode cX11_held 71 = .ok (.invokevirtual 98, 3) := by decide +kernel
theorem dX11_held_74 : decode cX11_held 74 = .ok (.ireturn, 1) := by decide +kernel
theorem dX11_slide_0 : decode cX11_slide 0 = .ok (.iload_n 1, 1) := by decide +kernel
theorem dX11_slide_1 : decode cX11_slide 1 = .ok (.invokestatic 359, 3) := by decide +kernel
theorem dX11_slide_4 : decode cX11_slide 4 = .ok (.ifCond .ne 10, 3) := by decide +kernel
theorem dX11_slide_7 : decode cX11_slide 7 = .ok (.aload_n 0, 1) := by decide +kernel
theorem dX11_slide_8 : decode cX11_slide 8 = .ok (.bipush (-2), 2) := by decide +kernel
theorem dX11_slide_10 : decode cX11_slide 10 = .ok (.invokevirtual 87, 3) := by decide +kernel
theorem dX11_slide_13 : decode cX11_slide 13 = .ok (.ireturn, 1) := by decide +kernel
theorem dX11_slide_14 : decode cX11_slide 14 = .ok (.aload_n 0, 1) := by decide +kernel
theorem dX11_slide_15 : decode cX11_slide 15 = .ok (.getfield 74, 3) := by decide +kernel
theorem dX11_slide_18 : decode cX11_slide 18 = .ok (.iload_n 1, 1) := by decide +kernel
theorem dX11_slide_19 : decode cX11_slide 19 = .ok (.aaload, 1) := by decide +kernel
theorem dX11_slide_20 : decode cX11_slide 20 = .ok (.astore 5, 2) := by decide +kernel
theorem dX11_slide_22 : decode cX11_slide 22 = .ok (.aload 5, 2) := by decide +kernel
theorem dX11_slide_24 : decode cX11_slide 24 = .ok (.ifnonnull 10, 3) := by decide +kernel
theorem dX11_slide_27 : decode cX11_slide 27 = .ok (.aload_n 0, 1) := by decide +kernel
theorem dX11_slide_28 : decode cX11_slide 28 = .ok (.bipush (-11), 2) := by decide +kernel
theorem dX11_slide_30 : decode cX11_slide 30 = .ok (.invokevirtual 180, 3) := by decide +kernel
theorem dX11_slide_33 : decode cX11_slide 33 = .ok (.ireturn, 1) := by decide +kernel
theorem dX11_slide_34 : decode cX11_slide 34 = .ok (.aload 5, 2) := by decide +kernel
theorem dX11_slide_36 : decode cX11_slide 36 = .ok (.iload_n 2, 1) := by decide +kernel
theorem dX11_slide_37 : decode cX11_slide 37 = .ok (.iload 4, 2) := by decide +kernel
theorem dX11_slide_39 : decode cX11_slide 39 = .ok (.invokevirtual 375, 3) := by decide +kernel
theorem dX11_slide_42 : decode cX11_slide 42 = .ok (.ifCond .eq 14, 3) := by decide +kernel
theorem dX11_slide_45 : decode cX11_slide 45 = .ok (.aload 5, 2) := by decide +kernel
theorem dX11_slide_47 : decode cX11_slide 47 = .ok (.iload_n 3, 1) := by decide +kernel
theorem dX11_slide_48 : decode cX11_slide 48 = .ok (.iload 4, 2) := by decide +kernel
theorem dX11_slide_50 : decode cX11_slide 50 = .ok (.invokevirtual 375, 3) := by decide +kernel
theorem dX11_slide_53 : decode cX11_slide 53 = .ok (.ifCond .ne 10, 3) := by decide +kernel
theorem dX11_slide_56 : decode cX11_slide 56 = .ok (.aload_n 0, 1) := by decide +kernel
theorem dX11_slide_57 : decode cX11_slide 57 = .ok (.bipush (-12), 2) := by decide +kernel
