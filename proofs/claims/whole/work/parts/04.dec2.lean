theorem dX12_drop_385 : decode cX12_drop 385 = .ok (.iconst 0, 1) := by decide +kernel
theorem dX12_drop_386 : decode cX12_drop 386 = .ok (.bastore, 1) := by decide +kernel
theorem dX12_drop_387 : decode cX12_drop 387 = .ok (.aload_n 0, 1) := by decide +kernel
theorem dX12_drop_388 : decode cX12_drop 388 = .ok (.dup, 1) := by decide +kernel
theorem dX12_drop_389 : decode cX12_drop 389 = .ok (.getfield 190, 3) := by decide +kernel
theorem dX12_drop_392 : decode cX12_drop 392 = .ok (.iconst 1, 1) := by decide +kernel
theorem dX12_drop_393 : decode cX12_drop 393 = .ok (.isub, 1) := by decide +kernel
theorem dX12_drop_394 : decode cX12_drop 394 = .ok (.putfield 190, 3) := by decide +kernel
theorem dX12_drop_397 : decode cX12_drop 397 = .ok (.iload_n 3, 1) := by decide +kernel
theorem dX12_drop_398 : decode cX12_drop 398 = .ok (.ireturn, 1) := by decide +kernel
theorem dX12_chord_0 : decode cX12_chord 0 = .ok (.aload_n 0, 1) := by decide +kernel
theorem dX12_chord_1 : decode cX12_chord 1 = .ok (.invokevirtual 144, 3) := by decide +kernel
theorem dX12_chord_4 : decode cX12_chord 4 = .ok (.aload_n 0, 1) := by decide +kernel
theorem dX12_chord_5 : decode cX12_chord 5 = .ok (.iload_n 1, 1) := by decide +kernel
theorem dX12_chord_6 : decode cX12_chord 6 = .ok (.invokevirtual 193, 3) := by decide +kernel
theorem dX12_chord_9 : decode cX12_chord 9 = .ok (.ifCond .eq 15, 3) := by decide +kernel
theorem dX12_chord_12 : decode cX12_chord 12 = .ok (.iload_n 2, 1) := by decide +kernel
theorem dX12_chord_13 : decode cX12_chord 13 = .ok (.i2l, 1) := by decide +kernel
theorem dX12_chord_14 : decode cX12_chord 14 = .ok (.lconst 0, 1) := by decide +kernel
theorem dX12_chord_15 : decode cX12_chord 15 = .ok (.ldc2_w 188, 3) := by decide +kernel
theorem dX12_chord_18 : decode cX12_chord 18 = .ok (.invokestatic 137, 3) := by decide +kernel
theorem dX12_chord_21 : decode cX12_chord 21 = .ok (.ifCond .ne 10, 3) := by decide +kernel
theorem dX12_chord_24 : decode cX12_chord 24 = .ok (.aload_n 0, 1) := by decide +kernel
theorem dX12_chord_25 : decode cX12_chord 25 = .ok (.bipush (-2), 2) := by decide +kernel
theorem dX12_chord_27 : decode cX12_chord 27 = .ok (.invokevirtual 130, 3) := by decide +kernel
theorem dX12_chord_30 : decode cX12_chord 30 = .ok (.ireturn, 1) := by decide +kernel
theorem dX12_chord_31 : decode cX12_chord 31 = .ok (.aload_n 0, 1) := by decide +kernel
theorem dX12_chord_32 : decode cX12_chord 32 = .ok (.getfield 24, 3) := by decide +kernel
theorem dX12_chord_35 : decode cX12_chord 35 = .ok (.iload_n 1, 1) := by decide +kernel
theorem dX12_chord_36 : decode cX12_chord 36 = .ok (.iaload, 1) := by decide +kernel
theorem dX12_chord_37 : decode cX12_chord 37 = .ok (.iconst 1, 1) := by decide +kernel
theorem dX12_chord_38 : decode cX12_chord 38 = .ok (.if_icmp .eq 10, 3) := by decide +kernel
theorem dX12_chord_41 : decode cX12_chord 41 = .ok (.aload_n 0, 1) := by decide +kernel
theorem dX12_chord_42 : decode cX12_chord 42 = .ok (.bipush (-13), 2) := by decide +kernel
theorem dX12_chord_44 : decode cX12_chord 44 = .ok (.invokevirtual 211, 3) := by decide +kernel
theorem dX12_chord_47 : decode cX12_chord 47 = .ok (.ireturn, 1) := by decide +kernel
theorem dX12_chord_48 : decode cX12_chord 48 = .ok (.aload_n 0, 1) := by decide +kernel
theorem dX12_chord_49 : decode cX12_chord 49 = .ok (.getfield 27, 3) := by decide +kernel
theorem dX12_chord_52 : decode cX12_chord 52 = .ok (.iload_n 1, 1) := by decide +kernel
theorem dX12_chord_53 : decode cX12_chord 53 = .ok (.iaload, 1) := by decide +kernel
theorem dX12_chord_54 : decode cX12_chord 54 = .ok (.istore_n 3, 1) := by decide +kernel
theorem dX12_chord_55 : decode cX12_chord 55 = .ok (.iload_n 2, 1) := by decide +kernel
theorem dX12_chord_56 : decode cX12_chord 56 = .ok (.aload_n 0, 1) := by decide +kernel
theorem dX12_chord_57 : decode cX12_chord 57 = .ok (.getfield 30, 3) := by decide +kernel
theorem dX12_chord_60 : decode cX12_chord 60 = .ok (.bipush 6, 2) := by decide +kernel
theorem dX12_chord_62 : decode cX12_chord 62 = .ok (.iload_n 1, 1) := by decide +kernel
theorem dX12_chord_63 : decode cX12_chord 63 = .ok (.imul, 1) := by decide +kernel
theorem dX12_chord_64 : decode cX12_chord 64 = .ok (.iload_n 3, 1) := by decide +kernel
theorem dX12_chord_65 : decode cX12_chord 65 = .ok (.iadd, 1) := by decide +kernel
theorem dX12_chord_66 : decode cX12_chord 66 = .ok (.iconst 1, 1) := by decide +kernel
theorem dX12_chord_67 : decode cX12_chord 67 = .ok (.isub, 1) := by decide +kernel
theorem dX12_chord_68 : decode cX12_chord 68 = .ok (.iaload, 1) := by decide +kernel
theorem dX12_chord_69 : decode cX12_chord 69 = .ok (.if_icmp .gt 10, 3) := by decide +kernel
theorem dX12_chord_72 : decode cX12_chord 72 = .ok (.aload_n 0, 1) := by decide +kernel
theorem dX12_chord_73 : decode cX12_chord 73 = .ok (.bipush (-3), 2) := by decide +kernel
theorem dX12_chord_75 : decode cX12_chord 75 = .ok (.invokevirtual 130, 3) := by decide +kernel
theorem dX12_chord_78 : decode cX12_chord 78 = .ok (.ireturn, 1) := by decide +kernel
theorem dX12_chord_79 : decode cX12_chord 79 = .ok (.iload_n 3, 1) := by decide +kernel
theorem dX12_chord_80 : decode cX12_chord 80 = .ok (.bipush 6, 2) := by decide +kernel
theorem dX12_chord_82 : decode cX12_chord 82 = .ok (.if_icmp .ne 10, 3) := by decide +kernel
theorem dX12_chord_85 : decode cX12_chord 85 = .ok (.aload_n 0, 1) := by decide +kernel
theorem dX12_chord_86 : decode cX12_chord 86 = .ok (.bipush (-4), 2) := by decide +kernel
theorem dX12_chord_88 : decode cX12_chord 88 = .ok (.invokevirtual 130, 3) := by decide +kernel
theorem dX12_chord_91 : decode cX12_chord 91 = .ok (.ireturn, 1) := by decide +kernel
theorem dX12_chord_92 : decode cX12_chord 92 = .ok (.aload_n 0, 1) := by decide +kernel
theorem dX12_chord_93 : decode cX12_chord 93 = .ok (.getfield 30, 3) := by decide +kernel
theorem dX12_chord_96 : decode cX12_chord 96 = .ok (.bipush 6, 2) := by decide +kernel
theorem dX12_chord_98 : decode cX12_chord 98 = .ok (.iload_n 1, 1) := by decide +kernel
theorem dX12_chord_99 : decode cX12_chord 99 = .ok (.imul, 1) := by decide +kernel
theorem dX12_chord_100 : decode cX12_chord 100 = .ok (.iload_n 3, 1) := by decide +kernel
theorem dX12_chord_101 : decode cX12_chord 101 = .ok (.iadd, 1) := by decide +kernel
theorem dX12_chord_102 : decode cX12_chord 102 = .ok (.iload_n 2, 1) := by decide +kernel
theorem dX12_chord_103 : decode cX12_chord 103 = .ok (.iastore, 1) := by decide +kernel
theorem dX12_chord_104 : decode cX12_chord 104 = .ok (.aload_n 0, 1) := by decide +kernel
theorem dX12_chord_105 : decode cX12_chord 105 = .ok (.getfield 27, 3) := by decide +kernel
theorem dX12_chord_108 : decode cX12_chord 108 = .ok (.iload_n 1, 1) := by decide +kernel
theorem dX12_chord_109 : decode cX12_chord 109 = .ok (.dup2, 1) := by decide +kernel
theorem dX12_chord_110 : decode cX12_chord 110 = .ok (.iaload, 1) := by decide +kernel
theorem dX12_chord_111 : decode cX12_chord 111 = .ok (.iconst 1, 1) := by decide +kernel
theorem dX12_chord_112 : decode cX12_chord 112 = .ok (.iadd, 1) := by decide +kernel
theorem dX12_chord_113 : decode cX12_chord 113 = .ok (.iastore, 1) := by decide +kernel
theorem dX12_chord_114 : decode cX12_chord 114 = .ok (.iload_n 3, 1) := by decide +kernel
theorem dX12_chord_115 : decode cX12_chord 115 = .ok (.iconst 1, 1) := by decide +kernel
theorem dX12_chord_116 : decode cX12_chord 116 = .ok (.iadd, 1) := by decide +kernel
theorem dX12_chord_117 : decode cX12_chord 117 = .ok (.ireturn, 1) := by decide +kernel
theorem dX12_pitch_0 : decode cX12_pitch 0 = .ok (.aload_n 0, 1) := by decide +kernel
theorem dX12_pitch_1 : decode cX12_pitch 1 = .ok (.invokevirtual 144, 3) := by decide +kernel
theorem dX12_pitch_4 : decode cX12_pitch 4 = .ok (.aload_n 0, 1) := by decide +kernel
theorem dX12_pitch_5 : decode cX12_pitch 5 = .ok (.iload_n 1, 1) := by decide +kernel
theorem dX12_pitch_6 : decode cX12_pitch 6 = .ok (.invokevirtual 193, 3) := by decide +kernel
theorem dX12_pitch_9 : decode cX12_pitch 9 = .ok (.ifCond .ne 10, 3) := by decide +kernel
theorem dX12_pitch_12 : decode cX12_pitch 12 = .ok (.aload_n 0, 1) := by decide +kernel
theorem dX12_pitch_13 : decode cX12_pitch 13 = .ok (.bipush (-2), 2) := by decide +kernel
theorem dX12_pitch_15 : decode cX12_pitch 15 = .ok (.invokevirtual 130, 3) := by decide +kernel
theorem dX12_pitch_18 : decode cX12_pitch 18 = .ok (.ireturn, 1) := by decide +kernel
theorem dX12_pitch_19 : decode cX12_pitch 19 = .ok (.aload_n 0, 1) := by decide +kernel
theorem dX12_pitch_20 : decode cX12_pitch 20 = .ok (.iload_n 1, 1) := by decide +kernel
theorem dX12_pitch_21 : decode cX12_pitch 21 = .ok (.invokevirtual 214, 3) := by decide +kernel
theorem dX12_pitch_24 : decode cX12_pitch 24 = .ok (.ifCond .ne 10, 3) := by decide +kernel
theorem dX12_pitch_27 : decode cX12_pitch 27 = .ok (.aload_n 0, 1) := by decide +kernel
theorem dX12_pitch_28 : decode cX12_pitch 28 = .ok (.bipush (-13), 2) := by decide +kernel
theorem dX12_pitch_30 : decode cX12_pitch 30 = .ok (.invokevirtual 211, 3) := by decide +kernel
theorem dX12_pitch_33 : decode cX12_pitch 33 = .ok (.ireturn, 1) := by decide +kernel
theorem dX12_pitch_34 : decode cX12_pitch 34 = .ok (.iload_n 2, 1) := by decide +kernel
theorem dX12_pitch_35 : decode cX12_pitch 35 = .ok (.i2l, 1) := by decide +kernel
theorem dX12_pitch_36 : decode cX12_pitch 36 = .ok (.lconst 0, 1) := by decide +kernel
theorem dX12_pitch_37 : decode cX12_pitch 37 = .ok (.aload_n 0, 1) := by decide +kernel
theorem dX12_pitch_38 : decode cX12_pitch 38 = .ok (.getfield 27, 3) := by decide +kernel
theorem dX12_pitch_41 : decode cX12_pitch 41 = .ok (.iload_n 1, 1) := by decide +kernel
theorem dX12_pitch_42 : decode cX12_pitch 42 = .ok (.iaload, 1) := by decide +kernel
theorem dX12_pitch_43 : decode cX12_pitch 43 = .ok (.iconst 1, 1) := by decide +kernel
theorem dX12_pitch_44 : decode cX12_pitch 44 = .ok (.isub, 1) := by decide +kernel
theorem dX12_pitch_45 : decode cX12_pitch 45 = .ok (.i2l, 1) := by decide +kernel
theorem dX12_pitch_46 : decode cX12_pitch 46 = .ok (.invokestatic 137, 3) := by decide +kernel
theorem dX12_pitch_49 : decode cX12_pitch 49 = .ok (.ifCond .eq 17, 3) := by decide +kernel
theorem dX12_pitch_52 : decode cX12_pitch 52 = .ok (.aload_n 0, 1) := by decide +kernel
theorem dX12_pitch_53 : decode cX12_pitch 53 = .ok (.getfield 30, 3) := by decide +kernel
theorem dX12_pitch_56 : decode cX12_pitch 56 = .ok (.bipush 6, 2) := by decide +kernel
theorem dX12_pitch_58 : decode cX12_pitch 58 = .ok (.iload_n 1, 1) := by decide +kernel
theorem dX12_pitch_59 : decode cX12_pitch 59 = .ok (.imul, 1) := by decide +kernel
theorem dX12_pitch_60 : decode cX12_pitch 60 = .ok (.iload_n 2, 1) := by decide +kernel
theorem dX12_pitch_61 : decode cX12_pitch 61 = .ok (.iadd, 1) := by decide +kernel
theorem dX12_pitch_62 : decode cX12_pitch 62 = .ok (.iaload, 1) := by decide +kernel
theorem dX12_pitch_63 : decode cX12_pitch 63 = .ok (.goto 4, 3) := by decide +kernel
theorem dX12_pitch_66 : decode cX12_pitch 66 = .ok (.iconst (-1), 1) := by decide +kernel
theorem dX12_pitch_67 : decode cX12_pitch 67 = .ok (.ireturn, 1) := by decide +kernel
theorem dX12_liftOf_0 : decode cX12_liftOf 0 = .ok (.iconst 0, 1) := by decide +kernel
theorem dX12_liftOf_1 : decode cX12_liftOf 1 = .ok (.istore_n 2, 1) := by decide +kernel
theorem dX12_liftOf_2 : decode cX12_liftOf 2 = .ok (.aload_n 0, 1) := by decide +kernel
theorem dX12_liftOf_3 : decode cX12_liftOf 3 = .ok (.iload_n 1, 1) := by decide +kernel
theorem dX12_liftOf_4 : decode cX12_liftOf 4 = .ok (.invokevirtual 196, 3) := by decide +kernel
theorem dX12_liftOf_7 : decode cX12_liftOf 7 = .ok (.istore_n 3, 1) := by decide +kernel
theorem dX12_liftOf_8 : decode cX12_liftOf 8 = .ok (.iconst 0, 1) := by decide +kernel
theorem dX12_liftOf_9 : decode cX12_liftOf 9 = .ok (.istore 4, 2) := by decide +kernel
theorem dX12_liftOf_11 : decode cX12_liftOf 11 = .ok (.iload 4, 2) := by decide +kernel
theorem dX12_liftOf_13 : decode cX12_liftOf 13 = .ok (.aload_n 0, 1) := by decide +kernel
theorem dX12_liftOf_14 : decode cX12_liftOf 14 = .ok (.getfield 205, 3) := by decide +kernel
theorem dX12_liftOf_17 : decode cX12_liftOf 17 = .ok (.if_icmp .ge 122, 3) := by decide +kernel
theorem dX12_liftOf_20 : decode cX12_liftOf 20 = .ok (.aload_n 0, 1) := by decide +kernel
theorem dX12_liftOf_21 : decode cX12_liftOf 21 = .ok (.getfield 69, 3) := by decide +kernel
theorem dX12_liftOf_24 : decode cX12_liftOf 24 = .ok (.iload 4, 2) := by decide +kernel
theorem dX12_liftOf_26 : decode cX12_liftOf 26 = .ok (.baload, 1) := by decide +kernel
theorem dX12_liftOf_27 : decode cX12_liftOf 27 = .ok (.ifCond .eq 106, 3) := by decide +kernel
theorem dX12_liftOf_30 : decode cX12_liftOf 30 = .ok (.aload_n 0, 1) := by decide +kernel
theorem dX12_liftOf_31 : decode cX12_liftOf 31 = .ok (.getfield 72, 3) := by decide +kernel
theorem dX12_liftOf_34 : decode cX12_liftOf 34 = .ok (.iload 4, 2) := by decide +kernel
theorem dX12_liftOf_36 : decode cX12_liftOf 36 = .ok (.iaload, 1) := by decide +kernel
theorem dX12_liftOf_37 : decode cX12_liftOf 37 = .ok (.iconst 2, 1) := by decide +kernel
theorem dX12_liftOf_38 : decode cX12_liftOf 38 = .ok (.if_icmp .ne 95, 3) := by decide +kernel
theorem dX12_liftOf_41 : decode cX12_liftOf 41 = .ok (.aload_n 0, 1) := by decide +kernel
theorem dX12_liftOf_42 : decode cX12_liftOf 42 = .ok (.getfield 78, 3) := by decide +kernel
theorem dX12_liftOf_45 : decode cX12_liftOf 45 = .ok (.iload 4, 2) := by decide +kernel
theorem dX12_liftOf_47 : decode cX12_liftOf 47 = .ok (.iaload, 1) := by decide +kernel
theorem dX12_liftOf_48 : decode cX12_liftOf 48 = .ok (.iconst (-1), 1) := by decide +kernel
theorem dX12_liftOf_49 : decode cX12_liftOf 49 = .ok (.if_icmp .eq 84, 3) := by decide +kernel
theorem dX12_liftOf_52 : decode cX12_liftOf 52 = .ok (.aload_n 0, 1) := by decide +kernel
theorem dX12_liftOf_53 : decode cX12_liftOf 53 = .ok (.getfield 21, 3) := by decide +kernel
theorem dX12_liftOf_56 : decode cX12_liftOf 56 = .ok (.aload_n 0, 1) := by decide +kernel
theorem dX12_liftOf_57 : decode cX12_liftOf 57 = .ok (.getfield 75, 3) := by decide +kernel
theorem dX12_liftOf_60 : decode cX12_liftOf 60 = .ok (.iload 4, 2) := by decide +kernel
theorem dX12_liftOf_62 : decode cX12_liftOf 62 = .ok (.iaload, 1) := by decide +kernel
theorem dX12_liftOf_63 : decode cX12_liftOf 63 = .ok (.iaload, 1) := by decide +kernel
theorem dX12_liftOf_64 : decode cX12_liftOf 64 = .ok (.aload_n 0, 1) := by decide +kernel
theorem dX12_liftOf_65 : decode cX12_liftOf 65 = .ok (.getfield 21, 3) := by decide +kernel
theorem dX12_liftOf_68 : decode cX12_liftOf 68 = .ok (.iload_n 1, 1) := by decide +kernel
theorem dX12_liftOf_69 : decode cX12_liftOf 69 = .ok (.iaload, 1) := by decide +kernel
theorem dX12_liftOf_70 : decode cX12_liftOf 70 = .ok (.if_icmp .ne 63, 3) := by decide +kernel
theorem dX12_liftOf_73 : decode cX12_liftOf 73 = .ok (.aload_n 0, 1) := by decide +kernel
theorem dX12_liftOf_74 : decode cX12_liftOf 74 = .ok (.getfield 21, 3) := by decide +kernel
theorem dX12_liftOf_77 : decode cX12_liftOf 77 = .ok (.aload_n 0, 1) := by decide +kernel
theorem dX12_liftOf_78 : decode cX12_liftOf 78 = .ok (.getfield 78, 3) := by decide +kernel
theorem dX12_liftOf_81 : decode cX12_liftOf 81 = .ok (.iload 4, 2) := by decide +kernel
theorem dX12_liftOf_83 : decode cX12_liftOf 83 = .ok (.iaload, 1) := by decide +kernel
theorem dX12_liftOf_84 : decode cX12_liftOf 84 = .ok (.iaload, 1) := by decide +kernel
theorem dX12_liftOf_85 : decode cX12_liftOf 85 = .ok (.aload_n 0, 1) := by decide +kernel
theorem dX12_liftOf_86 : decode cX12_liftOf 86 = .ok (.getfield 21, 3) := by decide +kernel
theorem dX12_liftOf_89 : decode cX12_liftOf 89 = .ok (.iload_n 1, 1) := by decide +kernel
theorem dX12_liftOf_90 : decode cX12_liftOf 90 = .ok (.iaload, 1) := by decide +kernel
theorem dX12_liftOf_91 : decode cX12_liftOf 91 = .ok (.if_icmp .ne 42, 3) := by decide +kernel
theorem dX12_liftOf_94 : decode cX12_liftOf 94 = .ok (.iload_n 2, 1) := by decide +kernel
theorem dX12_liftOf_95 : decode cX12_liftOf 95 = .ok (.aload_n 0, 1) := by decide +kernel
theorem dX12_liftOf_96 : decode cX12_liftOf 96 = .ok (.aload_n 0, 1) := by decide +kernel
theorem dX12_liftOf_97 : decode cX12_liftOf 97 = .ok (.getfield 75, 3) := by decide +kernel
theorem dX12_liftOf_100 : decode cX12_liftOf 100 = .ok (.iload 4, 2) := by decide +kernel
theorem dX12_liftOf_102 : decode cX12_liftOf 102 = .ok (.iaload, 1) := by decide +kernel
theorem dX12_liftOf_103 : decode cX12_liftOf 103 = .ok (.invokevirtual 196, 3) := by decide +kernel
theorem dX12_liftOf_106 : decode cX12_liftOf 106 = .ok (.iload_n 3, 1) := by decide +kernel
theorem dX12_liftOf_107 : decode cX12_liftOf 107 = .ok (.if_icmp .gt 23, 3) := by decide +kernel
theorem dX12_liftOf_110 : decode cX12_liftOf 110 = .ok (.iload_n 3, 1) := by decide +kernel
theorem dX12_liftOf_111 : decode cX12_liftOf 111 = .ok (.aload_n 0, 1) := by decide +kernel
theorem dX12_liftOf_112 : decode cX12_liftOf 112 = .ok (.aload_n 0, 1) := by decide +kernel
theorem dX12_liftOf_113 : decode cX12_liftOf 113 = .ok (.getfield 78, 3) := by decide +kernel
theorem dX12_liftOf_116 : decode cX12_liftOf 116 = .ok (.iload 4, 2) := by decide +kernel
theorem dX12_liftOf_118 : decode cX12_liftOf 118 = .ok (.iaload, 1) := by decide +kernel
theorem dX12_liftOf_119 : decode cX12_liftOf 119 = .ok (.invokevirtual 196, 3) := by decide +kernel
theorem dX12_liftOf_122 : decode cX12_liftOf 122 = .ok (.if_icmp .gt 8, 3) := by decide +kernel
theorem dX12_liftOf_125 : decode cX12_liftOf 125 = .ok (.bipush 12, 2) := by decide +kernel
theorem dX12_liftOf_127 : decode cX12_liftOf 127 = .ok (.goto 4, 3) := by decide +kernel
theorem dX12_liftOf_130 : decode cX12_liftOf 130 = .ok (.iconst 0, 1) := by decide +kernel
theorem dX12_liftOf_131 : decode cX12_liftOf 131 = .ok (.iadd, 1) := by decide +kernel
theorem dX12_liftOf_132 : decode cX12_liftOf 132 = .ok (.istore_n 2, 1) := by decide +kernel
theorem dX12_liftOf_133 : decode cX12_liftOf 133 = .ok (.iinc 4 1, 3) := by decide +kernel
theorem dX12_liftOf_136 : decode cX12_liftOf 136 = .ok (.goto (-125), 3) := by decide +kernel
theorem dX12_liftOf_139 : decode cX12_liftOf 139 = .ok (.iload_n 2, 1) := by decide +kernel
theorem dX12_liftOf_140 : decode cX12_liftOf 140 = .ok (.ireturn, 1) := by decide +kernel
theorem dX12_heardOf_0 : decode cX12_heardOf 0 = .ok (.aload_n 0, 1) := by decide +kernel
theorem dX12_heardOf_1 : decode cX12_heardOf 1 = .ok (.aload_n 0, 1) := by decide +kernel
theorem dX12_heardOf_2 : decode cX12_heardOf 2 = .ok (.getfield 7, 3) := by decide +kernel
theorem dX12_heardOf_5 : decode cX12_heardOf 5 = .ok (.aload_n 0, 1) := by decide +kernel
theorem dX12_heardOf_6 : decode cX12_heardOf 6 = .ok (.getfield 21, 3) := by decide +kernel
theorem dX12_heardOf_9 : decode cX12_heardOf 9 = .ok (.iload_n 1, 1) := by decide +kernel
theorem dX12_heardOf_10 : decode cX12_heardOf 10 = .ok (.iaload, 1) := by decide +kernel
theorem dX12_heardOf_11 : decode cX12_heardOf 11 = .ok (.iconst 3, 1) := by decide +kernel
theorem dX12_heardOf_12 : decode cX12_heardOf 12 = .ok (.idiv, 1) := by decide +kernel
theorem dX12_heardOf_13 : decode cX12_heardOf 13 = .ok (.iaload, 1) := by decide +kernel
theorem dX12_heardOf_14 : decode cX12_heardOf 14 = .ok (.aload_n 0, 1) := by decide +kernel
theorem dX12_heardOf_15 : decode cX12_heardOf 15 = .ok (.getfield 30, 3) := by decide +kernel
theorem dX12_heardOf_18 : decode cX12_heardOf 18 = .ok (.bipush 6, 2) := by decide +kernel
theorem dX12_heardOf_20 : decode cX12_heardOf 20 = .ok (.iload_n 1, 1) := by decide +kernel
theorem dX12_heardOf_21 : decode cX12_heardOf 21 = .ok (.imul, 1) := by decide +kernel
theorem dX12_heardOf_22 : decode cX12_heardOf 22 = .ok (.iload_n 2, 1) := by decide +kernel
theorem dX12_heardOf_23 : decode cX12_heardOf 23 = .ok (.iadd, 1) := by decide +kernel
theorem dX12_heardOf_24 : decode cX12_heardOf 24 = .ok (.iaload, 1) := by decide +kernel
theorem dX12_heardOf_25 : decode cX12_heardOf 25 = .ok (.invokevirtual 174, 3) := by decide +kernel
theorem dX12_heardOf_28 : decode cX12_heardOf 28 = .ok (.aload_n 0, 1) := by decide +kernel
theorem dX12_heardOf_29 : decode cX12_heardOf 29 = .ok (.iload_n 1, 1) := by decide +kernel
theorem dX12_heardOf_30 : decode cX12_heardOf 30 = .ok (.invokevirtual 217, 3) := by decide +kernel
theorem dX12_heardOf_33 : decode cX12_heardOf 33 = .ok (.iadd, 1) := by decide +kernel
theorem dX12_heardOf_34 : decode cX12_heardOf 34 = .ok (.ireturn, 1) := by decide +kernel
theorem dX12_heard_0 : decode cX12_heard 0 = .ok (.aload_n 0, 1) := by decide +kernel
theorem dX12_heard_1 : decode cX12_heard 1 = .ok (.invokevirtual 144, 3) := by decide +kernel
theorem dX12_heard_4 : decode cX12_heard 4 = .ok (.aload_n 0, 1) := by decide +kernel
theorem dX12_heard_5 : decode cX12_heard 5 = .ok (.iload_n 1, 1) := by decide +kernel
theorem dX12_heard_6 : decode cX12_heard 6 = .ok (.invokevirtual 193, 3) := by decide +kernel
theorem dX12_heard_9 : decode cX12_heard 9 = .ok (.ifCond .ne 13, 3) := by decide +kernel
theorem dX12_heard_12 : decode cX12_heard 12 = .ok (.aload_n 0, 1) := by decide +kernel
theorem dX12_heard_13 : decode cX12_heard 13 = .ok (.bipush (-2), 2) := by decide +kernel
theorem dX12_heard_15 : decode cX12_heard 15 = .ok (.putfield 127, 3) := by decide +kernel
theorem dX12_heard_18 : decode cX12_heard 18 = .ok (.sipush (-2000), 3) := by decide +kernel
theorem dX12_heard_21 : decode cX12_heard 21 = .ok (.ireturn, 1) := by decide +kernel
theorem dX12_heard_22 : decode cX12_heard 22 = .ok (.aload_n 0, 1) := by decide +kernel
theorem dX12_heard_23 : decode cX12_heard 23 = .ok (.iload_n 1, 1) := by decide +kernel
theorem dX12_heard_24 : decode cX12_heard 24 = .ok (.invokevirtual 214, 3) := by decide +kernel
theorem dX12_heard_27 : decode cX12_heard 27 = .ok (.ifCond .ne 14, 3) := by decide +kernel
theorem dX12_heard_30 : decode cX12_heard 30 = .ok (.aload_n 0, 1) := by decide +kernel
theorem dX12_heard_31 : decode cX12_heard 31 = .ok (.bipush (-13), 2) := by decide +kernel
theorem dX12_heard_33 : decode cX12_heard 33 = .ok (.invokevirtual 211, 3) := by decide +kernel
theorem dX12_heard_36 : decode cX12_heard 36 = .ok (.istore_n 3, 1) := by decide +kernel
theorem dX12_heard_37 : decode cX12_heard 37 = .ok (.sipush (-2001), 3) := by decide +kernel
theorem dX12_heard_40 : decode cX12_heard 40 = .ok (.ireturn, 1) := by decide +kernel
theorem dX12_heard_41 : decode cX12_heard 41 = .ok (.iload_n 2, 1) := by decide +kernel
theorem dX12_heard_42 : decode cX12_heard 42 = .ok (.i2l, 1) := by decide +kernel
theorem dX12_heard_43 : decode cX12_heard 43 = .ok (.lconst 0, 1) := by decide +kernel
theorem dX12_heard_44 : decode cX12_heard 44 = .ok (.aload_n 0, 1) := by decide +kernel
theorem dX12_heard_45 : decode cX12_heard 45 = .ok (.getfield 27, 3) := by decide +kernel
theorem dX12_heard_48 : decode cX12_heard 48 = .ok (.iload_n 1, 1) := by decide +kernel
theorem dX12_heard_49 : decode cX12_heard 49 = .ok (.iaload, 1) := by decide +kernel
theorem dX12_heard_50 : decode cX12_heard 50 = .ok (.iconst 1, 1) := by decide +kernel
theorem dX12_heard_51 : decode cX12_heard 51 = .ok (.isub, 1) := by decide +kernel
theorem dX12_heard_52 : decode cX12_heard 52 = .ok (.i2l, 1) := by decide +kernel
theorem dX12_heard_53 : decode cX12_heard 53 = .ok (.invokestatic 137, 3) := by decide +kernel
theorem dX12_heard_56 : decode cX12_heard 56 = .ok (.ifCond .eq 12, 3) := by decide +kernel
theorem dX12_heard_59 : decode cX12_heard 59 = .ok (.aload_n 0, 1) := by decide +kernel
theorem dX12_heard_60 : decode cX12_heard 60 = .ok (.iload_n 1, 1) := by decide +kernel
theorem dX12_heard_61 : decode cX12_heard 61 = .ok (.iload_n 2, 1) := by decide +kernel
theorem dX12_heard_62 : decode cX12_heard 62 = .ok (.invokevirtual 220, 3) := by decide +kernel
theorem dX12_heard_65 : decode cX12_heard 65 = .ok (.goto 6, 3) := by decide +kernel
theorem dX12_heard_68 : decode cX12_heard 68 = .ok (.sipush (-1000), 3) := by decide +kernel
theorem dX12_heard_71 : decode cX12_heard 71 = .ok (.ireturn, 1) := by decide +kernel
theorem dX12_mayShift_0 : decode cX12_mayShift 0 = .ok (.aload_n 0, 1) := by decide +kernel
theorem dX12_mayShift_1 : decode cX12_mayShift 1 = .ok (.getfield 30, 3) := by decide +kernel
theorem dX12_mayShift_4 : decode cX12_mayShift 4 = .ok (.bipush 6, 2) := by decide +kernel
theorem dX12_mayShift_6 : decode cX12_mayShift 6 = .ok (.iload_n 1, 1) := by decide +kernel
theorem dX12_mayShift_7 : decode cX12_mayShift 7 = .ok (.imul, 1) := by decide +kernel
theorem dX12_mayShift_8 : decode cX12_mayShift 8 = .ok (.iaload, 1) := by decide +kernel
theorem dX12_mayShift_9 : decode cX12_mayShift 9 = .ok (.i2l, 1) := by decide +kernel
theorem dX12_mayShift_10 : decode cX12_mayShift 10 = .ok (.lload_n 2, 1) := by decide +kernel
theorem dX12_mayShift_11 : decode cX12_mayShift 11 = .ok (.ladd, 1) := by decide +kernel
theorem dX12_mayShift_12 : decode cX12_mayShift 12 = .ok (.lconst 0, 1) := by decide +kernel
theorem dX12_mayShift_13 : decode cX12_mayShift 13 = .ok (.lcmp, 1) := by decide +kernel
theorem dX12_mayShift_14 : decode cX12_mayShift 14 = .ok (.ifCond .lt 35, 3) := by decide +kernel
theorem dX12_mayShift_17 : decode cX12_mayShift 17 = .ok (.aload_n 0, 1) := by decide +kernel
theorem dX12_mayShift_18 : decode cX12_mayShift 18 = .ok (.getfield 30, 3) := by decide +kernel
theorem dX12_mayShift_21 : decode cX12_mayShift 21 = .ok (.bipush 6, 2) := by decide +kernel
theorem dX12_mayShift_23 : decode cX12_mayShift 23 = .ok (.iload_n 1, 1) := by decide +kernel
theorem dX12_mayShift_24 : decode cX12_mayShift 24 = .ok (.imul, 1) := by decide +kernel
theorem dX12_mayShift_25 : decode cX12_mayShift 25 = .ok (.aload_n 0, 1) := by decide +kernel
theorem dX12_mayShift_26 : decode cX12_mayShift 26 = .ok (.getfield 27, 3) := by decide +kernel
theorem dX12_mayShift_29 : decode cX12_mayShift 29 = .ok (.iload_n 1, 1) := by decide +kernel
theorem dX12_mayShift_30 : decode cX12_mayShift 30 = .ok (.iaload, 1) := by decide +kernel
theorem dX12_mayShift_31 : decode cX12_mayShift 31 = .ok (.iadd, 1) := by decide +kernel
theorem dX12_mayShift_32 : decode cX12_mayShift 32 = .ok (.iconst 1, 1) := by decide +kernel
theorem dX12_mayShift_33 : decode cX12_mayShift 33 = .ok (.isub, 1) := by decide +kernel
theorem dX12_mayShift_34 : decode cX12_mayShift 34 = .ok (.iaload, 1) := by decide +kernel
theorem dX12_mayShift_35 : decode cX12_mayShift 35 = .ok (.i2l, 1) := by decide +kernel
theorem dX12_mayShift_36 : decode cX12_mayShift 36 = .ok (.lload_n 2, 1) := by decide +kernel
theorem dX12_mayShift_37 : decode cX12_mayShift 37 = .ok (.ladd, 1) := by decide +kernel
theorem dX12_mayShift_38 : decode cX12_mayShift 38 = .ok (.ldc2_w 188, 3) := by decide +kernel
theorem dX12_mayShift_41 : decode cX12_mayShift 41 = .ok (.lcmp, 1) := by decide +kernel
theorem dX12_mayShift_42 : decode cX12_mayShift 42 = .ok (.ifCond .gt 7, 3) := by decide +kernel
theorem dX12_mayShift_45 : decode cX12_mayShift 45 = .ok (.iconst 1, 1) := by decide +kernel
theorem dX12_mayShift_46 : decode cX12_mayShift 46 = .ok (.goto 4, 3) := by decide +kernel
theorem dX12_mayShift_49 : decode cX12_mayShift 49 = .ok (.iconst 0, 1) := by decide +kernel
theorem dX12_mayShift_50 : decode cX12_mayShift 50 = .ok (.ireturn, 1) := by decide +kernel
theorem dX12_shifts_0 : decode cX12_shifts 0 = .ok (.iconst 0, 1) := by decide +kernel
theorem dX12_shifts_1 : decode cX12_shifts 1 = .ok (.istore_n 3, 1) := by decide +kernel
theorem dX12_shifts_2 : decode cX12_shifts 2 = .ok (.iload_n 3, 1) := by decide +kernel
theorem dX12_shifts_3 : decode cX12_shifts 3 = .ok (.aload_n 0, 1) := by decide +kernel
theorem dX12_shifts_4 : decode cX12_shifts 4 = .ok (.getfield 27, 3) := by decide +kernel
theorem dX12_shifts_7 : decode cX12_shifts 7 = .ok (.iload_n 1, 1) := by decide +kernel
theorem dX12_shifts_8 : decode cX12_shifts 8 = .ok (.iaload, 1) := by decide +kernel
theorem dX12_shifts_9 : decode cX12_shifts 9 = .ok (.if_icmp .ge 24, 3) := by decide +kernel
theorem dX12_shifts_12 : decode cX12_shifts 12 = .ok (.aload_n 0, 1) := by decide +kernel
theorem dX12_shifts_13 : decode cX12_shifts 13 = .ok (.getfield 30, 3) := by decide +kernel
theorem dX12_shifts_16 : decode cX12_shifts 16 = .ok (.bipush 6, 2) := by decide +kernel
theorem dX12_shifts_18 : decode cX12_shifts 18 = .ok (.iload_n 1, 1) := by decide +kernel
theorem dX12_shifts_19 : decode cX12_shifts 19 = .ok (.imul, 1) := by decide +kernel
theorem dX12_shifts_20 : decode cX12_shifts 20 = .ok (.iload_n 3, 1) := by decide +kernel
theorem dX12_shifts_21 : decode cX12_shifts 21 = .ok (.iadd, 1) := by decide +kernel
theorem dX12_shifts_22 : decode cX12_shifts 22 = .ok (.dup2, 1) := by decide +kernel
theorem dX12_shifts_23 : decode cX12_shifts 23 = .ok (.iaload, 1) := by decide +kernel
theorem dX12_shifts_24 : decode cX12_shifts 24 = .ok (.iload_n 2, 1) := by decide +kernel
theorem dX12_shifts_25 : decode cX12_shifts 25 = .ok (.iadd, 1) := by decide +kernel
theorem dX12_shifts_26 : decode cX12_shifts 26 = .ok (.iastore, 1) := by decide +kernel
theorem dX12_shifts_27 : decode cX12_shifts 27 = .ok (.iinc 3 1, 3) := by decide +kernel
theorem dX12_shifts_30 : decode cX12_shifts 30 = .ok (.goto (-28), 3) := by decide +kernel
theorem dX12_shifts_33 : decode cX12_shifts 33 = .ok (.return_, 1) := by decide +kernel
theorem dX12_shift_0 : decode cX12_shift 0 = .ok (.aload_n 0, 1) := by decide +kernel
theorem dX12_shift_1 : decode cX12_shift 1 = .ok (.invokevirtual 144, 3) := by decide +kernel
theorem dX12_shift_4 : decode cX12_shift 4 = .ok (.aload_n 0, 1) := by decide +kernel
theorem dX12_shift_5 : decode cX12_shift 5 = .ok (.iload_n 1, 1) := by decide +kernel
theorem dX12_shift_6 : decode cX12_shift 6 = .ok (.invokevirtual 193, 3) := by decide +kernel
theorem dX12_shift_9 : decode cX12_shift 9 = .ok (.ifCond .ne 10, 3) := by decide +kernel
theorem dX12_shift_12 : decode cX12_shift 12 = .ok (.aload_n 0, 1) := by decide +kernel
theorem dX12_shift_13 : decode cX12_shift 13 = .ok (.bipush (-2), 2) := by decide +kernel
theorem dX12_shift_15 : decode cX12_shift 15 = .ok (.invokevirtual 130, 3) := by decide +kernel
theorem dX12_shift_18 : decode cX12_shift 18 = .ok (.ireturn, 1) := by decide +kernel
theorem dX12_shift_19 : decode cX12_shift 19 = .ok (.aload_n 0, 1) := by decide +kernel
theorem dX12_shift_20 : decode cX12_shift 20 = .ok (.iload_n 1, 1) := by decide +kernel
theorem dX12_shift_21 : decode cX12_shift 21 = .ok (.invokevirtual 214, 3) := by decide +kernel
theorem dX12_shift_24 : decode cX12_shift 24 = .ok (.ifCond .ne 10, 3) := by decide +kernel
theorem dX12_shift_27 : decode cX12_shift 27 = .ok (.aload_n 0, 1) := by decide +kernel
theorem dX12_shift_28 : decode cX12_shift 28 = .ok (.bipush (-13), 2) := by decide +kernel
theorem dX12_shift_30 : decode cX12_shift 30 = .ok (.invokevirtual 211, 3) := by decide +kernel
theorem dX12_shift_33 : decode cX12_shift 33 = .ok (.ireturn, 1) := by decide +kernel
theorem dX12_shift_34 : decode cX12_shift 34 = .ok (.aload_n 0, 1) := by decide +kernel
theorem dX12_shift_35 : decode cX12_shift 35 = .ok (.iload_n 1, 1) := by decide +kernel
theorem dX12_shift_36 : decode cX12_shift 36 = .ok (.iload_n 2, 1) := by decide +kernel
theorem dX12_shift_37 : decode cX12_shift 37 = .ok (.i2l, 1) := by decide +kernel
theorem dX12_shift_38 : decode cX12_shift 38 = .ok (.invokevirtual 223, 3) := by decide +kernel
theorem dX12_shift_41 : decode cX12_shift 41 = .ok (.ifCond .ne 10, 3) := by decide +kernel
theorem dX12_shift_44 : decode cX12_shift 44 = .ok (.aload_n 0, 1) := by decide +kernel
theorem dX12_shift_45 : decode cX12_shift 45 = .ok (.bipush (-12), 2) := by decide +kernel
theorem dX12_shift_47 : decode cX12_shift 47 = .ok (.invokevirtual 211, 3) := by decide +kernel
theorem dX12_shift_50 : decode cX12_shift 50 = .ok (.ireturn, 1) := by decide +kernel
theorem dX12_shift_51 : decode cX12_shift 51 = .ok (.aload_n 0, 1) := by decide +kernel
theorem dX12_shift_52 : decode cX12_shift 52 = .ok (.iload_n 1, 1) := by decide +kernel
theorem dX12_shift_53 : decode cX12_shift 53 = .ok (.iload_n 2, 1) := by decide +kernel
theorem dX12_shift_54 : decode cX12_shift 54 = .ok (.invokevirtual 227, 3) := by decide +kernel
theorem dX12_shift_57 : decode cX12_shift 57 = .ok (.aload_n 0, 1) := by decide +kernel
theorem dX12_shift_58 : decode cX12_shift 58 = .ok (.getfield 27, 3) := by decide +kernel
theorem dX12_shift_61 : decode cX12_shift 61 = .ok (.iload_n 1, 1) := by decide +kernel
theorem dX12_shift_62 : decode cX12_shift 62 = .ok (.iaload, 1) := by decide +kernel
theorem dX12_shift_63 : decode cX12_shift 63 = .ok (.ireturn, 1) := by decide +kernel
theorem dX12_transpose_0 : decode cX12_transpose 0 = .ok (.aload_n 0, 1) := by decide +kernel
theorem dX12_transpose_1 : decode cX12_transpose 1 = .ok (.invokevirtual 144, 3) := by decide +kernel
theorem dX12_transpose_4 : decode cX12_transpose 4 = .ok (.aload_n 0, 1) := by decide +kernel
theorem dX12_transpose_5 : decode cX12_transpose 5 = .ok (.iload_n 1, 1) := by decide +kernel
theorem dX12_transpose_6 : decode cX12_transpose 6 = .ok (.invokevirtual 184, 3) := by decide +kernel
theorem dX12_transpose_9 : decode cX12_transpose 9 = .ok (.ifCond .ne 10, 3) := by decide +kernel
theorem dX12_transpose_12 : decode cX12_transpose 12 = .ok (.aload_n 0, 1) := by decide +kernel
theorem dX12_transpose_13 : decode cX12_transpose 13 = .ok (.bipush (-2), 2) := by decide +kernel
theorem dX12_transpose_15 : decode cX12_transpose 15 = .ok (.invokevirtual 130, 3) := by decide +kernel
theorem dX12_transpose_18 : decode cX12_transpose 18 = .ok (.ireturn, 1) := by decide +kernel
theorem dX12_transpose_19 : decode cX12_transpose 19 = .ok (.iconst 0, 1) := by decide +kernel
theorem dX12_transpose_20 : decode cX12_transpose 20 = .ok (.istore_n 3, 1) := by decide +kernel
theorem dX12_transpose_21 : decode cX12_transpose 21 = .ok (.iconst 0, 1) := by decide +kernel
theorem dX12_transpose_22 : decode cX12_transpose 22 = .ok (.istore 4, 2) := by decide +kernel
theorem dX12_transpose_24 : decode cX12_transpose 24 = .ok (.iload 4, 2) := by decide +kernel
theorem dX12_transpose_26 : decode cX12_transpose 26 = .ok (.aload_n 0, 1) := by decide +kernel
theorem dX12_transpose_27 : decode cX12_transpose 27 = .ok (.getfield 45, 3) := by decide +kernel
theorem dX12_transpose_30 : decode cX12_transpose 30 = .ok (.iload_n 1, 1) := by decide +kernel
theorem dX12_transpose_31 : decode cX12_transpose 31 = .ok (.iaload, 1) := by decide +kernel
theorem dX12_transpose_32 : decode cX12_transpose 32 = .ok (.if_icmp .ge 63, 3) := by decide +kernel
theorem dX12_transpose_35 : decode cX12_transpose 35 = .ok (.aload_n 0, 1) := by decide +kernel
theorem dX12_transpose_36 : decode cX12_transpose 36 = .ok (.getfield 42, 3) := by decide +kernel
theorem dX12_transpose_39 : decode cX12_transpose 39 = .ok (.bipush 40, 2) := by decide +kernel
theorem dX12_transpose_41 : decode cX12_transpose 41 = .ok (.iload_n 1, 1) := by decide +kernel
theorem dX12_transpose_42 : decode cX12_transpose 42 = .ok (.imul, 1) := by decide +kernel
theorem dX12_transpose_43 : decode cX12_transpose 43 = .ok (.iload 4, 2) := by decide +kernel
theorem dX12_transpose_45 : decode cX12_transpose 45 = .ok (.iadd, 1) := by decide +kernel
theorem dX12_transpose_46 : decode cX12_transpose 46 = .ok (.iaload, 1) := by decide +kernel
theorem dX12_transpose_47 : decode cX12_transpose 47 = .ok (.istore 5, 2) := by decide +kernel
theorem dX12_transpose_49 : decode cX12_transpose 49 = .ok (.aload_n 0, 1) := by decide +kernel
theorem dX12_transpose_50 : decode cX12_transpose 50 = .ok (.iload 5, 2) := by decide +kernel
theorem dX12_transpose_52 : decode cX12_transpose 52 = .ok (.invokevirtual 214, 3) := by decide +kernel
theorem dX12_transpose_55 : decode cX12_transpose 55 = .ok (.ifCond .eq 34, 3) := by decide +kernel
theorem dX12_transpose_58 : decode cX12_transpose 58 = .ok (.aload_n 0, 1) := by decide +kernel
theorem dX12_transpose_59 : decode cX12_transpose 59 = .ok (.iload 5, 2) := by decide +kernel
theorem dX12_transpose_61 : decode cX12_transpose 61 = .ok (.iload_n 2, 1) := by decide +kernel
theorem dX12_transpose_62 : decode cX12_transpose 62 = .ok (.i2l, 1) := by decide +kernel
theorem dX12_transpose_63 : decode cX12_transpose 63 = .ok (.invokevirtual 223, 3) := by decide +kernel
theorem dX12_transpose_66 : decode cX12_transpose 66 = .ok (.ifCond .ne 13, 3) := by decide +kernel
theorem dX12_transpose_69 : decode cX12_transpose 69 = .ok (.aload_n 0, 1) := by decide +kernel
theorem dX12_transpose_70 : decode cX12_transpose 70 = .ok (.bipush (-12), 2) := by decide +kernel
theorem dX12_transpose_72 : decode cX12_transpose 72 = .ok (.invokevirtual 211, 3) := by decide +kernel
theorem dX12_transpose_75 : decode cX12_transpose 75 = .ok (.istore 6, 2) := by decide +kernel
theorem dX12_transpose_77 : decode cX12_transpose 77 = .ok (.iload_n 3, 1) := by decide +kernel
theorem dX12_transpose_78 : decode cX12_transpose 78 = .ok (.ireturn, 1) := by decide +kernel
theorem dX12_transpose_79 : decode cX12_transpose 79 = .ok (.aload_n 0, 1) := by decide +kernel
theorem dX12_transpose_80 : decode cX12_transpose 80 = .ok (.iload 5, 2) := by decide +kernel
theorem dX12_transpose_82 : decode cX12_transpose 82 = .ok (.iload_n 2, 1) := by decide +kernel
theorem dX12_transpose_83 : decode cX12_transpose 83 = .ok (.invokevirtual 227, 3) := by decide +kernel
theorem dX12_transpose_86 : decode cX12_transpose 86 = .ok (.iinc 3 1, 3) := by decide +kernel
theorem dX12_transpose_89 : decode cX12_transpose 89 = .ok (.iinc 4 1, 3) := by decide +kernel
theorem dX12_transpose_92 : decode cX12_transpose 92 = .ok (.goto (-68), 3) := by decide +kernel
theorem dX12_transpose_95 : decode cX12_transpose 95 = .ok (.iload_n 3, 1) := by decide +kernel
theorem dX12_transpose_96 : decode cX12_transpose 96 = .ok (.ireturn, 1) := by decide +kernel
theorem dX12_tie_0 : decode cX12_tie 0 = .ok (.aload_n 0, 1) := by decide +kernel
theorem dX12_tie_1 : decode cX12_tie 1 = .ok (.invokevirtual 144, 3) := by decide +kernel
theorem dX12_tie_4 : decode cX12_tie 4 = .ok (.aload_n 0, 1) := by decide +kernel
theorem dX12_tie_5 : decode cX12_tie 5 = .ok (.iload_n 1, 1) := by decide +kernel
theorem dX12_tie_6 : decode cX12_tie 6 = .ok (.invokevirtual 193, 3) := by decide +kernel
theorem dX12_tie_9 : decode cX12_tie 9 = .ok (.ifCond .ne 10, 3) := by decide +kernel
theorem dX12_tie_12 : decode cX12_tie 12 = .ok (.aload_n 0, 1) := by decide +kernel
theorem dX12_tie_13 : decode cX12_tie 13 = .ok (.bipush (-2), 2) := by decide +kernel
theorem dX12_tie_15 : decode cX12_tie 15 = .ok (.invokevirtual 130, 3) := by decide +kernel
theorem dX12_tie_18 : decode cX12_tie 18 = .ok (.ireturn, 1) := by decide +kernel
theorem dX12_tie_19 : decode cX12_tie 19 = .ok (.aload_n 0, 1) := by decide +kernel
theorem dX12_tie_20 : decode cX12_tie 20 = .ok (.iload_n 1, 1) := by decide +kernel
theorem dX12_tie_21 : decode cX12_tie 21 = .ok (.invokevirtual 214, 3) := by decide +kernel
theorem dX12_tie_24 : decode cX12_tie 24 = .ok (.ifCond .ne 10, 3) := by decide +kernel
theorem dX12_tie_27 : decode cX12_tie 27 = .ok (.aload_n 0, 1) := by decide +kernel
theorem dX12_tie_28 : decode cX12_tie 28 = .ok (.bipush (-13), 2) := by decide +kernel
theorem dX12_tie_30 : decode cX12_tie 30 = .ok (.invokevirtual 211, 3) := by decide +kernel
theorem dX12_tie_33 : decode cX12_tie 33 = .ok (.ireturn, 1) := by decide +kernel
theorem dX12_tie_34 : decode cX12_tie 34 = .ok (.aload_n 0, 1) := by decide +kernel
theorem dX12_tie_35 : decode cX12_tie 35 = .ok (.getfield 39, 3) := by decide +kernel
theorem dX12_tie_38 : decode cX12_tie 38 = .ok (.iload_n 1, 1) := by decide +kernel
theorem dX12_tie_39 : decode cX12_tie 39 = .ok (.baload, 1) := by decide +kernel
theorem dX12_tie_40 : decode cX12_tie 40 = .ok (.ifCond .eq 7, 3) := by decide +kernel
theorem dX12_tie_43 : decode cX12_tie 43 = .ok (.iconst 1, 1) := by decide +kernel
theorem dX12_tie_44 : decode cX12_tie 44 = .ok (.goto 4, 3) := by decide +kernel
theorem dX12_tie_47 : decode cX12_tie 47 = .ok (.iconst 0, 1) := by decide +kernel
theorem dX12_tie_48 : decode cX12_tie 48 = .ok (.istore_n 3, 1) := by decide +kernel
theorem dX12_tie_49 : decode cX12_tie 49 = .ok (.aload_n 0, 1) := by decide +kernel
theorem dX12_tie_50 : decode cX12_tie 50 = .ok (.getfield 39, 3) := by decide +kernel
theorem dX12_tie_53 : decode cX12_tie 53 = .ok (.iload_n 1, 1) := by decide +kernel
theorem dX12_tie_54 : decode cX12_tie 54 = .ok (.iload_n 2, 1) := by decide +kernel
theorem dX12_tie_55 : decode cX12_tie 55 = .ok (.bastore, 1) := by decide +kernel
theorem dX12_tie_56 : decode cX12_tie 56 = .ok (.iload_n 3, 1) := by decide +kernel
theorem dX12_tie_57 : decode cX12_tie 57 = .ok (.ireturn, 1) := by decide +kernel
theorem dX12_value_0 : decode cX12_value 0 = .ok (.aload_n 0, 1) := by decide +kernel
theorem dX12_value_1 : decode cX12_value 1 = .ok (.invokevirtual 144, 3) := by decide +kernel
theorem dX12_value_4 : decode cX12_value 4 = .ok (.aload_n 0, 1) := by decide +kernel
theorem dX12_value_5 : decode cX12_value 5 = .ok (.iload_n 1, 1) := by decide +kernel
theorem dX12_value_6 : decode cX12_value 6 = .ok (.invokevirtual 193, 3) := by decide +kernel
theorem dX12_value_9 : decode cX12_value 9 = .ok (.ifCond .eq 27, 3) := by decide +kernel
theorem dX12_value_12 : decode cX12_value 12 = .ok (.iload_n 2, 1) := by decide +kernel
theorem dX12_value_13 : decode cX12_value 13 = .ok (.i2l, 1) := by decide +kernel
theorem dX12_value_14 : decode cX12_value 14 = .ok (.lconst 0, 1) := by decide +kernel
theorem dX12_value_15 : decode cX12_value 15 = .ok (.ldc2_w 147, 3) := by decide +kernel
theorem dX12_value_18 : decode cX12_value 18 = .ok (.invokestatic 137, 3) := by decide +kernel
theorem dX12_value_21 : decode cX12_value 21 = .ok (.ifCond .eq 15, 3) := by decide +kernel
theorem dX12_value_24 : decode cX12_value 24 = .ok (.iload_n 3, 1) := by decide +kernel
theorem dX12_value_25 : decode cX12_value 25 = .ok (.i2l, 1) := by decide +kernel
theorem dX12_value_26 : decode cX12_value 26 = .ok (.lconst 0, 1) := by decide +kernel
theorem dX12_value_27 : decode cX12_value 27 = .ok (.ldc2_w 170, 3) := by decide +kernel
theorem dX12_value_30 : decode cX12_value 30 = .ok (.invokestatic 137, 3) := by decide +kernel
theorem dX12_value_33 : decode cX12_value 33 = .ok (.ifCond .ne 10, 3) := by decide +kernel
theorem dX12_value_36 : decode cX12_value 36 = .ok (.aload_n 0, 1) := by decide +kernel
theorem dX12_value_37 : decode cX12_value 37 = .ok (.bipush (-2), 2) := by decide +kernel
theorem dX12_value_39 : decode cX12_value 39 = .ok (.invokevirtual 130, 3) := by decide +kernel
theorem dX12_value_42 : decode cX12_value 42 = .ok (.ireturn, 1) := by decide +kernel
theorem dX12_value_43 : decode cX12_value 43 = .ok (.aload_n 0, 1) := by decide +kernel
theorem dX12_value_44 : decode cX12_value 44 = .ok (.getfield 33, 3) := by decide +kernel
theorem dX12_value_47 : decode cX12_value 47 = .ok (.iload_n 1, 1) := by decide +kernel
theorem dX12_value_48 : decode cX12_value 48 = .ok (.iload_n 2, 1) := by decide +kernel
theorem dX12_value_49 : decode cX12_value 49 = .ok (.iastore, 1) := by decide +kernel
theorem dX12_value_50 : decode cX12_value 50 = .ok (.aload_n 0, 1) := by decide +kernel
theorem dX12_value_51 : decode cX12_value 51 = .ok (.getfield 36, 3) := by decide +kernel
theorem dX12_value_54 : decode cX12_value 54 = .ok (.iload_n 1, 1) := by decide +kernel
theorem dX12_value_55 : decode cX12_value 55 = .ok (.iload_n 3, 1) := by decide +kernel
theorem dX12_value_56 : decode cX12_value 56 = .ok (.iastore, 1) := by decide +kernel
theorem dX12_value_57 : decode cX12_value 57 = .ok (.iconst 1, 1) := by decide +kernel
theorem dX12_value_58 : decode cX12_value 58 = .ok (.ireturn, 1) := by decide +kernel
theorem dX12_writtenOf_0 : decode cX12_writtenOf 0 = .ok (.aload_n 0, 1) := by decide +kernel
theorem dX12_writtenOf_1 : decode cX12_writtenOf 1 = .ok (.getfield 24, 3) := by decide +kernel
theorem dX12_writtenOf_4 : decode cX12_writtenOf 4 = .ok (.iload_n 1, 1) := by decide +kernel
theorem dX12_writtenOf_5 : decode cX12_writtenOf 5 = .ok (.iaload, 1) := by decide +kernel
theorem dX12_writtenOf_6 : decode cX12_writtenOf 6 = .ok (.iconst 2, 1) := by decide +kernel
theorem dX12_writtenOf_7 : decode cX12_writtenOf 7 = .ok (.if_icmp .eq 13, 3) := by decide +kernel
theorem dX12_writtenOf_10 : decode cX12_writtenOf 10 = .ok (.aload_n 0, 1) := by decide +kernel
theorem dX12_writtenOf_11 : decode cX12_writtenOf 11 = .ok (.getfield 24, 3) := by decide +kernel
theorem dX12_writtenOf_14 : decode cX12_writtenOf 14 = .ok (.iload_n 1, 1) := by decide +kernel
theorem dX12_writtenOf_15 : decode cX12_writtenOf 15 = .ok (.iaload, 1) := by decide +kernel
theorem dX12_writtenOf_16 : decode cX12_writtenOf 16 = .ok (.iconst 4, 1) := by decide +kernel
theorem dX12_writtenOf_17 : decode cX12_writtenOf 17 = .ok (.if_icmp .ne 5, 3) := by decide +kernel
theorem dX12_writtenOf_20 : decode cX12_writtenOf 20 = .ok (.lconst 0, 1) := by decide +kernel
theorem dX12_writtenOf_21 : decode cX12_writtenOf 21 = .ok (.lreturn, 1) := by decide +kernel
theorem dX12_writtenOf_22 : decode cX12_writtenOf 22 = .ok (.ldc2_w 154, 3) := by decide +kernel
theorem dX12_writtenOf_25 : decode cX12_writtenOf 25 = .ok (.aload_n 0, 1) := by decide +kernel
theorem dX12_writtenOf_26 : decode cX12_writtenOf 26 = .ok (.getfield 33, 3) := by decide +kernel
theorem dX12_writtenOf_29 : decode cX12_writtenOf 29 = .ok (.iload_n 1, 1) := by decide +kernel
theorem dX12_writtenOf_30 : decode cX12_writtenOf 30 = .ok (.iaload, 1) := by decide +kernel
theorem dX12_writtenOf_31 : decode cX12_writtenOf 31 = .ok (.lshr, 1) := by decide +kernel
theorem dX12_writtenOf_32 : decode cX12_writtenOf 32 = .ok (.lstore_n 2, 1) := by decide +kernel
theorem dX12_writtenOf_33 : decode cX12_writtenOf 33 = .ok (.aload_n 0, 1) := by decide +kernel
theorem dX12_writtenOf_34 : decode cX12_writtenOf 34 = .ok (.getfield 36, 3) := by decide +kernel
theorem dX12_writtenOf_37 : decode cX12_writtenOf 37 = .ok (.iload_n 1, 1) := by decide +kernel
theorem dX12_writtenOf_38 : decode cX12_writtenOf 38 = .ok (.iaload, 1) := by decide +kernel
theorem dX12_writtenOf_39 : decode cX12_writtenOf 39 = .ok (.ifCond .ne 7, 3) := by decide +kernel
theorem dX12_writtenOf_42 : decode cX12_writtenOf 42 = .ok (.lload_n 2, 1) := by decide +kernel
theorem dX12_writtenOf_43 : decode cX12_writtenOf 43 = .ok (.goto 34, 3) := by decide +kernel
theorem dX12_writtenOf_46 : decode cX12_writtenOf 46 = .ok (.aload_n 0, 1) := by decide +kernel
theorem dX12_writtenOf_47 : decode cX12_writtenOf 47 = .ok (.getfield 36, 3) := by decide +kernel
theorem dX12_writtenOf_50 : decode cX12_writtenOf 50 = .ok (.iload_n 1, 1) := by decide +kernel
theorem dX12_writtenOf_51 : decode cX12_writtenOf 51 = .ok (.iaload, 1) := by decide +kernel
theorem dX12_writtenOf_52 : decode cX12_writtenOf 52 = .ok (.iconst 1, 1) := by decide +kernel
theorem dX12_writtenOf_53 : decode cX12_writtenOf 53 = .ok (.if_icmp .ne 15, 3) := by decide +kernel
theorem dX12_writtenOf_56 : decode cX12_writtenOf 56 = .ok (.lload_n 2, 1) := by decide +kernel
theorem dX12_writtenOf_57 : decode cX12_writtenOf 57 = .ok (.ldc2_w 170, 3) := by decide +kernel
theorem dX12_writtenOf_60 : decode cX12_writtenOf 60 = .ok (.ldiv, 1) := by decide +kernel
theorem dX12_writtenOf_61 : decode cX12_writtenOf 61 = .ok (.ldc2_w 231, 3) := by decide +kernel
theorem dX12_writtenOf_64 : decode cX12_writtenOf 64 = .ok (.lmul, 1) := by decide +kernel
theorem dX12_writtenOf_65 : decode cX12_writtenOf 65 = .ok (.goto 12, 3) := by decide +kernel
theorem dX12_writtenOf_68 : decode cX12_writtenOf 68 = .ok (.lload_n 2, 1) := by decide +kernel
theorem dX12_writtenOf_69 : decode cX12_writtenOf 69 = .ok (.ldc2_w 172, 3) := by decide +kernel
theorem dX12_writtenOf_72 : decode cX12_writtenOf 72 = .ok (.ldiv, 1) := by decide +kernel
theorem dX12_writtenOf_73 : decode cX12_writtenOf 73 = .ok (.ldc2_w 233, 3) := by decide +kernel
theorem dX12_writtenOf_76 : decode cX12_writtenOf 76 = .ok (.lmul, 1) := by decide +kernel
theorem dX12_writtenOf_77 : decode cX12_writtenOf 77 = .ok (.lreturn, 1) := by decide +kernel
theorem dX12_liesIn_0 : decode cX12_liesIn 0 = .ok (.aload_n 0, 1) := by decide +kernel
theorem dX12_liesIn_1 : decode cX12_liesIn 1 = .ok (.getfield 48, 3) := by decide +kernel
theorem dX12_liesIn_4 : decode cX12_liesIn 4 = .ok (.iload_n 2, 1) := by decide +kernel
theorem dX12_liesIn_5 : decode cX12_liesIn 5 = .ok (.baload, 1) := by decide +kernel
theorem dX12_liesIn_6 : decode cX12_liesIn 6 = .ok (.ifCond .eq 18, 3) := by decide +kernel
theorem dX12_liesIn_9 : decode cX12_liesIn 9 = .ok (.aload_n 0, 1) := by decide +kernel
theorem dX12_liesIn_10 : decode cX12_liesIn 10 = .ok (.getfield 51, 3) := by decide +kernel
theorem dX12_liesIn_13 : decode cX12_liesIn 13 = .ok (.iload_n 2, 1) := by decide +kernel
theorem dX12_liesIn_14 : decode cX12_liesIn 14 = .ok (.iaload, 1) := by decide +kernel
theorem dX12_liesIn_15 : decode cX12_liesIn 15 = .ok (.aload_n 0, 1) := by decide +kernel
theorem dX12_liesIn_16 : decode cX12_liesIn 16 = .ok (.getfield 21, 3) := by decide +kernel
theorem dX12_liesIn_19 : decode cX12_liesIn 19 = .ok (.iload_n 1, 1) := by decide +kernel
theorem dX12_liesIn_20 : decode cX12_liesIn 20 = .ok (.iaload, 1) := by decide +kernel
theorem dX12_liesIn_21 : decode cX12_liesIn 21 = .ok (.if_icmp .eq 5, 3) := by decide +kernel
theorem dX12_liesIn_24 : decode cX12_liesIn 24 = .ok (.iconst 0, 1) := by decide +kernel
theorem dX12_liesIn_25 : decode cX12_liesIn 25 = .ok (.ireturn, 1) := by decide +kernel
theorem dX12_liesIn_26 : decode cX12_liesIn 26 = .ok (.aload_n 0, 1) := by decide +kernel
theorem dX12_liesIn_27 : decode cX12_liesIn 27 = .ok (.iload_n 1, 1) := by decide +kernel
theorem dX12_liesIn_28 : decode cX12_liesIn 28 = .ok (.invokevirtual 196, 3) := by decide +kernel
theorem dX12_liesIn_31 : decode cX12_liesIn 31 = .ok (.istore_n 3, 1) := by decide +kernel
theorem dX12_liesIn_32 : decode cX12_liesIn 32 = .ok (.aload_n 0, 1) := by decide +kernel
theorem dX12_liesIn_33 : decode cX12_liesIn 33 = .ok (.aload_n 0, 1) := by decide +kernel
theorem dX12_liesIn_34 : decode cX12_liesIn 34 = .ok (.getfield 54, 3) := by decide +kernel
theorem dX12_liesIn_37 : decode cX12_liesIn 37 = .ok (.iload_n 2, 1) := by decide +kernel
theorem dX12_liesIn_38 : decode cX12_liesIn 38 = .ok (.iaload, 1) := by decide +kernel
theorem dX12_liesIn_39 : decode cX12_liesIn 39 = .ok (.invokevirtual 196, 3) := by decide +kernel
theorem dX12_liesIn_42 : decode cX12_liesIn 42 = .ok (.iload_n 3, 1) := by decide +kernel
theorem dX12_liesIn_43 : decode cX12_liesIn 43 = .ok (.if_icmp .gt 21, 3) := by decide +kernel
theorem dX12_liesIn_46 : decode cX12_liesIn 46 = .ok (.iload_n 3, 1) := by decide +kernel
theorem dX12_liesIn_47 : decode cX12_liesIn 47 = .ok (.aload_n 0, 1) := by decide +kernel
theorem dX12_liesIn_48 : decode cX12_liesIn 48 = .ok (.aload_n 0, 1) := by decide +kernel
theorem dX12_liesIn_49 : decode cX12_liesIn 49 = .ok (.getfield 57, 3) := by decide +kernel
theorem dX12_liesIn_52 : decode cX12_liesIn 52 = .ok (.iload_n 2, 1) := by decide +kernel
theorem dX12_liesIn_53 : decode cX12_liesIn 53 = .ok (.iaload, 1) := by decide +kernel
theorem dX12_liesIn_54 : decode cX12_liesIn 54 = .ok (.invokevirtual 196, 3) := by decide +kernel
theorem dX12_liesIn_57 : decode cX12_liesIn 57 = .ok (.if_icmp .gt 7, 3) := by decide +kernel
theorem dX12_liesIn_60 : decode cX12_liesIn 60 = .ok (.iconst 1, 1) := by decide +kernel
theorem dX12_liesIn_61 : decode cX12_liesIn 61 = .ok (.goto 4, 3) := by decide +kernel
theorem dX12_liesIn_64 : decode cX12_liesIn 64 = .ok (.iconst 0, 1) := by decide +kernel
theorem dX12_liesIn_65 : decode cX12_liesIn 65 = .ok (.ireturn, 1) := by decide +kernel
theorem dX12_timeOf_0 : decode cX12_timeOf 0 = .ok (.aload_n 0, 1) := by decide +kernel
theorem dX12_timeOf_1 : decode cX12_timeOf 1 = .ok (.iload_n 1, 1) := by decide +kernel
theorem dX12_timeOf_2 : decode cX12_timeOf 2 = .ok (.invokevirtual 235, 3) := by decide +kernel
theorem dX12_timeOf_5 : decode cX12_timeOf 5 = .ok (.lstore_n 2, 1) := by decide +kernel
theorem dX12_timeOf_6 : decode cX12_timeOf 6 = .ok (.iconst 0, 1) := by decide +kernel
theorem dX12_timeOf_7 : decode cX12_timeOf 7 = .ok (.istore 4, 2) := by decide +kernel
theorem dX12_timeOf_9 : decode cX12_timeOf 9 = .ok (.iload 4, 2) := by decide +kernel
theorem dX12_timeOf_11 : decode cX12_timeOf 11 = .ok (.aload_n 0, 1) := by decide +kernel
theorem dX12_timeOf_12 : decode cX12_timeOf 12 = .ok (.getfield 199, 3) := by decide +kernel
theorem dX12_timeOf_15 : decode cX12_timeOf 15 = .ok (.if_icmp .ge 43, 3) := by decide +kernel
theorem dX12_timeOf_18 : decode cX12_timeOf 18 = .ok (.aload_n 0, 1) := by decide +kernel
theorem dX12_timeOf_19 : decode cX12_timeOf 19 = .ok (.iload_n 1, 1) := by decide +kernel
theorem dX12_timeOf_20 : decode cX12_timeOf 20 = .ok (.iload 4, 2) := by decide +kernel
theorem dX12_timeOf_22 : decode cX12_timeOf 22 = .ok (.invokevirtual 239, 3) := by decide +kernel
theorem dX12_timeOf_25 : decode cX12_timeOf 25 = .ok (.ifCond .eq 25, 3) := by decide +kernel
theorem dX12_timeOf_28 : decode cX12_timeOf 28 = .ok (.lload_n 2, 1) := by decide +kernel
theorem dX12_timeOf_29 : decode cX12_timeOf 29 = .ok (.aload_n 0, 1) := by decide +kernel
theorem dX12_timeOf_30 : decode cX12_timeOf 30 = .ok (.getfield 60, 3) := by decide +kernel
theorem dX12_timeOf_33 : decode cX12_timeOf 33 = .ok (.iload 4, 2) := by decide +kernel
theorem dX12_timeOf_35 : decode cX12_timeOf 35 = .ok (.iaload, 1) := by decide +kernel
theorem dX12_timeOf_36 : decode cX12_timeOf 36 = .ok (.i2l, 1) := by decide +kernel
theorem dX12_timeOf_37 : decode cX12_timeOf 37 = .ok (.ldiv, 1) := by decide +kernel
theorem dX12_timeOf_38 : decode cX12_timeOf 38 = .ok (.aload_n 0, 1) := by decide +kernel
theorem dX12_timeOf_39 : decode cX12_timeOf 39 = .ok (.getfield 63, 3) := by decide +kernel
theorem dX12_timeOf_42 : decode cX12_timeOf 42 = .ok (.iload 4, 2) := by decide +kernel
theorem dX12_timeOf_44 : decode cX12_timeOf 44 = .ok (.iaload, 1) := by decide +kernel
theorem dX12_timeOf_45 : decode cX12_timeOf 45 = .ok (.i2l, 1) := by decide +kernel
theorem dX12_timeOf_46 : decode cX12_timeOf 46 = .ok (.lmul, 1) := by decide +kernel
theorem dX12_timeOf_47 : decode cX12_timeOf 47 = .ok (.goto 4, 3) := by decide +kernel
theorem dX12_timeOf_50 : decode cX12_timeOf 50 = .ok (.lload_n 2, 1) := by decide +kernel
theorem dX12_timeOf_51 : decode cX12_timeOf 51 = .ok (.lstore_n 2, 1) := by decide +kernel
theorem dX12_timeOf_52 : decode cX12_timeOf 52 = .ok (.iinc 4 1, 3) := by decide +kernel
theorem dX12_timeOf_55 : decode cX12_timeOf 55 = .ok (.goto (-46), 3) := by decide +kernel
theorem dX12_timeOf_58 : decode cX12_timeOf 58 = .ok (.lload_n 2, 1) := by decide +kernel
theorem dX12_timeOf_59 : decode cX12_timeOf 59 = .ok (.lreturn, 1) := by decide +kernel
theorem dX12_beginOf_0 : decode cX12_beginOf 0 = .ok (.lconst 0, 1) := by decide +kernel
theorem dX12_beginOf_1 : decode cX12_beginOf 1 = .ok (.lstore_n 2, 1) := by decide +kernel
theorem dX12_beginOf_2 : decode cX12_beginOf 2 = .ok (.aload_n 0, 1) := by decide +kernel
theorem dX12_beginOf_3 : decode cX12_beginOf 3 = .ok (.getfield 21, 3) := by decide +kernel
theorem dX12_beginOf_6 : decode cX12_beginOf 6 = .ok (.iload_n 1, 1) := by decide +kernel
theorem dX12_beginOf_7 : decode cX12_beginOf 7 = .ok (.iaload, 1) := by decide +kernel
theorem dX12_beginOf_8 : decode cX12_beginOf 8 = .ok (.istore 4, 2) := by decide +kernel
theorem dX12_beginOf_10 : decode cX12_beginOf 10 = .ok (.iconst 0, 1) := by decide +kernel
theorem dX12_beginOf_11 : decode cX12_beginOf 11 = .ok (.istore 5, 2) := by decide +kernel
theorem dX12_beginOf_13 : decode cX12_beginOf 13 = .ok (.aload_n 0, 1) := by decide +kernel
theorem dX12_beginOf_14 : decode cX12_beginOf 14 = .ok (.getfield 42, 3) := by decide +kernel
theorem dX12_beginOf_17 : decode cX12_beginOf 17 = .ok (.bipush 40, 2) := by decide +kernel
theorem dX12_beginOf_19 : decode cX12_beginOf 19 = .ok (.iload 4, 2) := by decide +kernel
theorem dX12_beginOf_21 : decode cX12_beginOf 21 = .ok (.imul, 1) := by decide +kernel
theorem dX12_beginOf_22 : decode cX12_beginOf 22 = .ok (.iload 5, 2) := by decide +kernel
theorem dX12_beginOf_24 : decode cX12_beginOf 24 = .ok (.iadd, 1) := by decide +kernel
theorem dX12_beginOf_25 : decode cX12_beginOf 25 = .ok (.iaload, 1) := by decide +kernel
theorem dX12_beginOf_26 : decode cX12_beginOf 26 = .ok (.iload_n 1, 1) := by decide +kernel
theorem dX12_beginOf_27 : decode cX12_beginOf 27 = .ok (.if_icmp .eq 29, 3) := by decide +kernel
theorem dX12_beginOf_30 : decode cX12_beginOf 30 = .ok (.lload_n 2, 1) := by decide +kernel
theorem dX12_beginOf_31 : decode cX12_beginOf 31 = .ok (.aload_n 0, 1) := by decide +kernel
theorem dX12_beginOf_32 : decode cX12_beginOf 32 = .ok (.aload_n 0, 1) := by decide +kernel
theorem dX12_beginOf_33 : decode cX12_beginOf 33 = .ok (.getfield 42, 3) := by decide +kernel
theorem dX12_beginOf_36 : decode cX12_beginOf 36 = .ok (.bipush 40, 2) := by decide +kernel
theorem dX12_beginOf_38 : decode cX12_beginOf 38 = .ok (.iload 4, 2) := by decide +kernel
theorem dX12_beginOf_40 : decode cX12_beginOf 40 = .ok (.imul, 1) := by decide +kernel
theorem dX12_beginOf_41 : decode cX12_beginOf 41 = .ok (.iload 5, 2) := by decide +kernel
theorem dX12_beginOf_43 : decode cX12_beginOf 43 = .ok (.iadd, 1) := by decide +kernel
theorem dX12_beginOf_44 : decode cX12_beginOf 44 = .ok (.iaload, 1) := by decide +kernel
theorem dX12_beginOf_45 : decode cX12_beginOf 45 = .ok (.invokevirtual 243, 3) := by decide +kernel
theorem dX12_beginOf_48 : decode cX12_beginOf 48 = .ok (.ladd, 1) := by decide +kernel
theorem dX12_beginOf_49 : decode cX12_beginOf 49 = .ok (.lstore_n 2, 1) := by decide +kernel
theorem dX12_beginOf_50 : decode cX12_beginOf 50 = .ok (.iinc 5 1, 3) := by decide +kernel
theorem dX12_beginOf_53 : decode cX12_beginOf 53 = .ok (.goto (-40), 3) := by decide +kernel
theorem dX12_beginOf_56 : decode cX12_beginOf 56 = .ok (.lload_n 2, 1) := by decide +kernel
theorem dX12_beginOf_57 : decode cX12_beginOf 57 = .ok (.lreturn, 1) := by decide +kernel
theorem dX12_lengthOf_0 : decode cX12_lengthOf 0 = .ok (.lconst 0, 1) := by decide +kernel
theorem dX12_lengthOf_1 : decode cX12_lengthOf 1 = .ok (.lstore_n 2, 1) := by decide +kernel
theorem dX12_lengthOf_2 : decode cX12_lengthOf 2 = .ok (.iconst 0, 1) := by decide +kernel
theorem dX12_lengthOf_3 : decode cX12_lengthOf 3 = .ok (.istore 4, 2) := by decide +kernel
theorem dX12_lengthOf_5 : decode cX12_lengthOf 5 = .ok (.iload 4, 2) := by decide +kernel
theorem dX12_lengthOf_7 : decode cX12_lengthOf 7 = .ok (.aload_n 0, 1) := by decide +kernel
theorem dX12_lengthOf_8 : decode cX12_lengthOf 8 = .ok (.getfield 45, 3) := by decide +kernel
theorem dX12_lengthOf_11 : decode cX12_lengthOf 11 = .ok (.iload_n 1, 1) := by decide +kernel
theorem dX12_lengthOf_12 : decode cX12_lengthOf 12 = .ok (.iaload, 1) := by decide +kernel
theorem dX12_lengthOf_13 : decode cX12_lengthOf 13 = .ok (.if_icmp .ge 28, 3) := by decide +kernel
theorem dX12_lengthOf_16 : decode cX12_lengthOf 16 = .ok (.lload_n 2, 1) := by decide +kernel
theorem dX12_lengthOf_17 : decode cX12_lengthOf 17 = .ok (.aload_n 0, 1) := by decide +kernel
theorem dX12_lengthOf_18 : decode cX12_lengthOf 18 = .ok (.aload_n 0, 1) := by decide +kernel
theorem dX12_lengthOf_19 : decode cX12_lengthOf 19 = .ok (.getfield 42, 3) := by decide +kernel
theorem dX12_lengthOf_22 : decode cX12_lengthOf 22 = .ok (.bipush 40, 2) := by decide +kernel
theorem dX12_lengthOf_24 : decode cX12_lengthOf 24 = .ok (.iload_n 1, 1) := by decide +kernel
theorem dX12_lengthOf_25 : decode cX12_lengthOf 25 = .ok (.imul, 1) := by decide +kernel
theorem dX12_lengthOf_26 : decode cX12_lengthOf 26 = .ok (.iload 4, 2) := by decide +kernel
theorem dX12_lengthOf_28 : decode cX12_lengthOf 28 = .ok (.iadd, 1) := by decide +kernel
theorem dX12_lengthOf_29 : decode cX12_lengthOf 29 = .ok (.iaload, 1) := by decide +kernel
theorem dX12_lengthOf_30 : decode cX12_lengthOf 30 = .ok (.invokevirtual 243, 3) := by decide +kernel
theorem dX12_lengthOf_33 : decode cX12_lengthOf 33 = .ok (.ladd, 1) := by decide +kernel
theorem dX12_lengthOf_34 : decode cX12_lengthOf 34 = .ok (.lstore_n 2, 1) := by decide +kernel
theorem dX12_lengthOf_35 : decode cX12_lengthOf 35 = .ok (.iinc 4 1, 3) := by decide +kernel
theorem dX12_lengthOf_38 : decode cX12_lengthOf 38 = .ok (.goto (-33), 3) := by decide +kernel
theorem dX12_lengthOf_41 : decode cX12_lengthOf 41 = .ok (.lload_n 2, 1) := by decide +kernel
theorem dX12_lengthOf_42 : decode cX12_lengthOf 42 = .ok (.lreturn, 1) := by decide +kernel
theorem dX12_barAt_0 : decode cX12_barAt 0 = .ok (.lconst 0, 1) := by decide +kernel
theorem dX12_barAt_1 : decode cX12_barAt 1 = .ok (.lstore_n 2, 1) := by decide +kernel
theorem dX12_barAt_2 : decode cX12_barAt 2 = .ok (.iconst 0, 1) := by decide +kernel
theorem dX12_barAt_3 : decode cX12_barAt 3 = .ok (.istore 4, 2) := by decide +kernel
theorem dX12_barAt_5 : decode cX12_barAt 5 = .ok (.iload 4, 2) := by decide +kernel
theorem dX12_barAt_7 : decode cX12_barAt 7 = .ok (.iload_n 1, 1) := by decide +kernel
theorem dX12_barAt_8 : decode cX12_barAt 8 = .ok (.if_icmp .ge 19, 3) := by decide +kernel
theorem dX12_barAt_11 : decode cX12_barAt 11 = .ok (.lload_n 2, 1) := by decide +kernel
theorem dX12_barAt_12 : decode cX12_barAt 12 = .ok (.aload_n 0, 1) := by decide +kernel
theorem dX12_barAt_13 : decode cX12_barAt 13 = .ok (.getfield 13, 3) := by decide +kernel
theorem dX12_barAt_16 : decode cX12_barAt 16 = .ok (.iload 4, 2) := by decide +kernel
theorem dX12_barAt_18 : decode cX12_barAt 18 = .ok (.laload, 1) := by decide +kernel
theorem dX12_barAt_19 : decode cX12_barAt 19 = .ok (.ladd, 1) := by decide +kernel
theorem dX12_barAt_20 : decode cX12_barAt 20 = .ok (.lstore_n 2, 1) := by decide +kernel
theorem dX12_barAt_21 : decode cX12_barAt 21 = .ok (.iinc 4 1, 3) := by decide +kernel
theorem dX12_barAt_24 : decode cX12_barAt 24 = .ok (.goto (-19), 3) := by decide +kernel
theorem dX12_barAt_27 : decode cX12_barAt 27 = .ok (.lload_n 2, 1) := by decide +kernel
theorem dX12_barAt_28 : decode cX12_barAt 28 = .ok (.lreturn, 1) := by decide +kernel
theorem dX12_barOf_0 : decode cX12_barOf 0 = .ok (.iconst 0, 1) := by decide +kernel
theorem dX12_barOf_1 : decode cX12_barOf 1 = .ok (.istore_n 3, 1) := by decide +kernel
theorem dX12_barOf_2 : decode cX12_barOf 2 = .ok (.iload_n 3, 1) := by decide +kernel
theorem dX12_barOf_3 : decode cX12_barOf 3 = .ok (.aload_n 0, 1) := by decide +kernel
theorem dX12_barOf_4 : decode cX12_barOf 4 = .ok (.getfield 151, 3) := by decide +kernel
theorem dX12_barOf_7 : decode cX12_barOf 7 = .ok (.if_icmp .ge 21, 3) := by decide +kernel
theorem dX12_barOf_10 : decode cX12_barOf 10 = .ok (.lload_n 1, 1) := by decide +kernel
theorem dX12_barOf_11 : decode cX12_barOf 11 = .ok (.aload_n 0, 1) := by decide +kernel
theorem dX12_barOf_12 : decode cX12_barOf 12 = .ok (.iload_n 3, 1) := by decide +kernel
theorem dX12_barOf_13 : decode cX12_barOf 13 = .ok (.iconst 1, 1) := by decide +kernel
theorem dX12_barOf_14 : decode cX12_barOf 14 = .ok (.iadd, 1) := by decide +kernel
theorem dX12_barOf_15 : decode cX12_barOf 15 = .ok (.invokevirtual 246, 3) := by decide +kernel
theorem dX12_barOf_18 : decode cX12_barOf 18 = .ok (.lcmp, 1) := by decide +kernel
theorem dX12_barOf_19 : decode cX12_barOf 19 = .ok (.ifCond .lt 9, 3) := by decide +kernel
theorem dX12_barOf_22 : decode cX12_barOf 22 = .ok (.iinc 3 1, 3) := by decide +kernel
theorem dX12_barOf_25 : decode cX12_barOf 25 = .ok (.goto (-23), 3) := by decide +kernel
theorem dX12_barOf_28 : decode cX12_barOf 28 = .ok (.iload_n 3, 1) := by decide +kernel
theorem dX12_barOf_29 : decode cX12_barOf 29 = .ok (.aload_n 0, 1) := by decide +kernel
theorem dX12_barOf_30 : decode cX12_barOf 30 = .ok (.getfield 151, 3) := by decide +kernel
theorem dX12_barOf_33 : decode cX12_barOf 33 = .ok (.if_icmp .ge 7, 3) := by decide +kernel
theorem dX12_barOf_36 : decode cX12_barOf 36 = .ok (.iload_n 3, 1) := by decide +kernel
theorem dX12_barOf_37 : decode cX12_barOf 37 = .ok (.goto 4, 3) := by decide +kernel
theorem dX12_barOf_40 : decode cX12_barOf 40 = .ok (.iconst (-1), 1) := by decide +kernel
theorem dX12_barOf_41 : decode cX12_barOf 41 = .ok (.ireturn, 1) := by decide +kernel
theorem dX12_divisor_0 : decode cX12_divisor 0 = .ok (.lload_n 0, 1) := by decide +kernel
theorem dX12_divisor_1 : decode cX12_divisor 1 = .ok (.lstore 4, 2) := by decide +kernel
theorem dX12_divisor_3 : decode cX12_divisor 3 = .ok (.lload_n 2, 1) := by decide +kernel
theorem dX12_divisor_4 : decode cX12_divisor 4 = .ok (.lstore 6, 2) := by decide +kernel
theorem dX12_divisor_6 : decode cX12_divisor 6 = .ok (.lload 6, 2) := by decide +kernel
theorem dX12_divisor_8 : decode cX12_divisor 8 = .ok (.lconst 0, 1) := by decide +kernel
theorem dX12_divisor_9 : decode cX12_divisor 9 = .ok (.lcmp, 1) := by decide +kernel
theorem dX12_divisor_10 : decode cX12_divisor 10 = .ok (.ifCond .eq 21, 3) := by decide +kernel
theorem dX12_divisor_13 : decode cX12_divisor 13 = .ok (.lload 4, 2) := by decide +kernel
theorem dX12_divisor_15 : decode cX12_divisor 15 = .ok (.lload 6, 2) := by decide +kernel
theorem dX12_divisor_17 : decode cX12_divisor 17 = .ok (.lrem, 1) := by decide +kernel
theorem dX12_divisor_18 : decode cX12_divisor 18 = .ok (.lstore 8, 2) := by decide +kernel
theorem dX12_divisor_20 : decode cX12_divisor 20 = .ok (.lload 6, 2) := by decide +kernel
theorem dX12_divisor_22 : decode cX12_divisor 22 = .ok (.lstore 4, 2) := by decide +kernel
theorem dX12_divisor_24 : decode cX12_divisor 24 = .ok (.lload 8, 2) := by decide +kernel
theorem dX12_divisor_26 : decode cX12_divisor 26 = .ok (.lstore 6, 2) := by decide +kernel
theorem dX12_divisor_28 : decode cX12_divisor 28 = .ok (.goto (-22), 3) := by decide +kernel
theorem dX12_divisor_31 : decode cX12_divisor 31 = .ok (.lload 4, 2) := by decide +kernel
theorem dX12_divisor_33 : decode cX12_divisor 33 = .ok (.lreturn, 1) := by decide +kernel
theorem dX12_fraction_0 : decode cX12_fraction 0 = .ok (.ldc2_w 154, 3) := by decide +kernel
theorem dX12_fraction_3 : decode cX12_fraction 3 = .ok (.lload_n 0, 1) := by decide +kernel
theorem dX12_fraction_4 : decode cX12_fraction 4 = .ok (.invokestatic 249, 3) := by decide +kernel
theorem dX12_fraction_7 : decode cX12_fraction 7 = .ok (.lstore_n 3, 1) := by decide +kernel
theorem dX12_fraction_8 : decode cX12_fraction 8 = .ok (.iload_n 2, 1) := by decide +kernel
theorem dX12_fraction_9 : decode cX12_fraction 9 = .ok (.ifCond .eq 11, 3) := by decide +kernel
theorem dX12_fraction_12 : decode cX12_fraction 12 = .ok (.ldc2_w 154, 3) := by decide +kernel
theorem dX12_fraction_15 : decode cX12_fraction 15 = .ok (.lload_n 3, 1) := by decide +kernel
theorem dX12_fraction_16 : decode cX12_fraction 16 = .ok (.ldiv, 1) := by decide +kernel
theorem dX12_fraction_17 : decode cX12_fraction 17 = .ok (.goto 6, 3) := by decide +kernel
theorem dX12_fraction_20 : decode cX12_fraction 20 = .ok (.lload_n 0, 1) := by decide +kernel
theorem dX12_fraction_21 : decode cX12_fraction 21 = .ok (.lload_n 3, 1) := by decide +kernel
theorem dX12_fraction_22 : decode cX12_fraction 22 = .ok (.ldiv, 1) := by decide +kernel
theorem dX12_fraction_23 : decode cX12_fraction 23 = .ok (.lreturn, 1) := by decide +kernel
theorem dX12_at_0 : decode cX12_at 0 = .ok (.aload_n 0, 1) := by decide +kernel
theorem dX12_at_1 : decode cX12_at 1 = .ok (.invokevirtual 144, 3) := by decide +kernel
theorem dX12_at_4 : decode cX12_at 4 = .ok (.aload_n 0, 1) := by decide +kernel
theorem dX12_at_5 : decode cX12_at 5 = .ok (.iload_n 1, 1) := by decide +kernel
theorem dX12_at_6 : decode cX12_at 6 = .ok (.invokevirtual 193, 3) := by decide +kernel
theorem dX12_at_9 : decode cX12_at 9 = .ok (.ifCond .eq 15, 3) := by decide +kernel
theorem dX12_at_12 : decode cX12_at 12 = .ok (.iload_n 2, 1) := by decide +kernel
theorem dX12_at_13 : decode cX12_at 13 = .ok (.i2l, 1) := by decide +kernel
theorem dX12_at_14 : decode cX12_at 14 = .ok (.lconst 0, 1) := by decide +kernel
theorem dX12_at_15 : decode cX12_at 15 = .ok (.ldc2_w 253, 3) := by decide +kernel
theorem dX12_at_18 : decode cX12_at 18 = .ok (.invokestatic 137, 3) := by decide +kernel
theorem dX12_at_21 : decode cX12_at 21 = .ok (.ifCond .ne 10, 3) := by decide +kernel
theorem dX12_at_24 : decode cX12_at 24 = .ok (.aload_n 0, 1) := by decide +kernel
theorem dX12_at_25 : decode cX12_at 25 = .ok (.bipush (-2), 2) := by decide +kernel
theorem dX12_at_27 : decode cX12_at 27 = .ok (.invokevirtual 130, 3) := by decide +kernel
theorem dX12_at_30 : decode cX12_at 30 = .ok (.ireturn, 1) := by decide +kernel
theorem dX12_at_31 : decode cX12_at 31 = .ok (.iload_n 2, 1) := by decide +kernel
theorem dX12_at_32 : decode cX12_at 32 = .ok (.tableswitch 113 0 7 #[48, 55, 61, 68, 75, 90, 96, 106], 48) := by decide +kernel
theorem dX12_at_80 : decode cX12_at 80 = .ok (.aload_n 0, 1) := by decide +kernel
theorem dX12_at_81 : decode cX12_at 81 = .ok (.getfield 21, 3) := by decide +kernel
theorem dX12_at_84 : decode cX12_at 84 = .ok (.iload_n 1, 1) := by decide +kernel
theorem dX12_at_85 : decode cX12_at 85 = .ok (.iaload, 1) := by decide +kernel
theorem dX12_at_86 : decode cX12_at 86 = .ok (.ireturn, 1) := by decide +kernel
theorem dX12_at_87 : decode cX12_at 87 = .ok (.aload_n 0, 1) := by decide +kernel
theorem dX12_at_88 : decode cX12_at 88 = .ok (.iload_n 1, 1) := by decide +kernel
theorem dX12_at_89 : decode cX12_at 89 = .ok (.invokevirtual 196, 3) := by decide +kernel
theorem dX12_at_92 : decode cX12_at 92 = .ok (.ireturn, 1) := by decide +kernel
theorem dX12_at_93 : decode cX12_at 93 = .ok (.aload_n 0, 1) := by decide +kernel
theorem dX12_at_94 : decode cX12_at 94 = .ok (.getfield 24, 3) := by decide +kernel
theorem dX12_at_97 : decode cX12_at 97 = .ok (.iload_n 1, 1) := by decide +kernel
theorem dX12_at_98 : decode cX12_at 98 = .ok (.iaload, 1) := by decide +kernel
theorem dX12_at_99 : decode cX12_at 99 = .ok (.ireturn, 1) := by decide +kernel
theorem dX12_at_100 : decode cX12_at 100 = .ok (.aload_n 0, 1) := by decide +kernel
theorem dX12_at_101 : decode cX12_at 101 = .ok (.getfield 27, 3) := by decide +kernel
theorem dX12_at_104 : decode cX12_at 104 = .ok (.iload_n 1, 1) := by decide +kernel
theorem dX12_at_105 : decode cX12_at 105 = .ok (.iaload, 1) := by decide +kernel
theorem dX12_at_106 : decode cX12_at 106 = .ok (.ireturn, 1) := by decide +kernel
theorem dX12_at_107 : decode cX12_at 107 = .ok (.aload_n 0, 1) := by decide +kernel
theorem dX12_at_108 : decode cX12_at 108 = .ok (.getfield 39, 3) := by decide +kernel
theorem dX12_at_111 : decode cX12_at 111 = .ok (.iload_n 1, 1) := by decide +kernel
theorem dX12_at_112 : decode cX12_at 112 = .ok (.baload, 1) := by decide +kernel
theorem dX12_at_113 : decode cX12_at 113 = .ok (.ifCond .eq 7, 3) := by decide +kernel
theorem dX12_at_116 : decode cX12_at 116 = .ok (.iconst 1, 1) := by decide +kernel
theorem dX12_at_117 : decode cX12_at 117 = .ok (.goto 4, 3) := by decide +kernel
theorem dX12_at_120 : decode cX12_at 120 = .ok (.iconst 0, 1) := by decide +kernel
theorem dX12_at_121 : decode cX12_at 121 = .ok (.ireturn, 1) := by decide +kernel
theorem dX12_at_122 : decode cX12_at 122 = .ok (.aload_n 0, 1) := by decide +kernel
theorem dX12_at_123 : decode cX12_at 123 = .ok (.iload_n 1, 1) := by decide +kernel
theorem dX12_at_124 : decode cX12_at 124 = .ok (.invokevirtual 255, 3) := by decide +kernel
theorem dX12_at_127 : decode cX12_at 127 = .ok (.ireturn, 1) := by decide +kernel
theorem dX12_at_128 : decode cX12_at 128 = .ok (.aload_n 0, 1) := by decide +kernel
theorem dX12_at_129 : decode cX12_at 129 = .ok (.aload_n 0, 1) := by decide +kernel
theorem dX12_at_130 : decode cX12_at 130 = .ok (.iload_n 1, 1) := by decide +kernel
theorem dX12_at_131 : decode cX12_at 131 = .ok (.invokevirtual 258, 3) := by decide +kernel
theorem dX12_at_134 : decode cX12_at 134 = .ok (.invokevirtual 261, 3) := by decide +kernel
theorem dX12_at_137 : decode cX12_at 137 = .ok (.ireturn, 1) := by decide +kernel
theorem dX12_at_138 : decode cX12_at 138 = .ok (.aload_n 0, 1) := by decide +kernel
theorem dX12_at_139 : decode cX12_at 139 = .ok (.getfield 33, 3) := by decide +kernel
theorem dX12_at_142 : decode cX12_at 142 = .ok (.iload_n 1, 1) := by decide +kernel
theorem dX12_at_143 : decode cX12_at 143 = .ok (.iaload, 1) := by decide +kernel
theorem dX12_at_144 : decode cX12_at 144 = .ok (.ireturn, 1) := by decide +kernel
theorem dX12_at_145 : decode cX12_at 145 = .ok (.aload_n 0, 1) := by decide +kernel
theorem dX12_at_146 : decode cX12_at 146 = .ok (.getfield 36, 3) := by decide +kernel
theorem dX12_at_149 : decode cX12_at 149 = .ok (.iload_n 1, 1) := by decide +kernel
theorem dX12_at_150 : decode cX12_at 150 = .ok (.iaload, 1) := by decide +kernel
theorem dX12_at_151 : decode cX12_at 151 = .ok (.ireturn, 1) := by decide +kernel
theorem dX12_tupletsOf_0 : decode cX12_tupletsOf 0 = .ok (.iconst 0, 1) := by decide +kernel
theorem dX12_tupletsOf_1 : decode cX12_tupletsOf 1 = .ok (.istore_n 2, 1) := by decide +kernel
theorem dX12_tupletsOf_2 : decode cX12_tupletsOf 2 = .ok (.iconst 0, 1) := by decide +kernel
theorem dX12_tupletsOf_3 : decode cX12_tupletsOf 3 = .ok (.istore_n 3, 1) := by decide +kernel
theorem dX12_tupletsOf_4 : decode cX12_tupletsOf 4 = .ok (.iload_n 3, 1) := by decide +kernel
theorem dX12_tupletsOf_5 : decode cX12_tupletsOf 5 = .ok (.aload_n 0, 1) := by decide +kernel
theorem dX12_tupletsOf_6 : decode cX12_tupletsOf 6 = .ok (.getfield 199, 3) := by decide +kernel
theorem dX12_tupletsOf_9 : decode cX12_tupletsOf 9 = .ok (.if_icmp .ge 26, 3) := by decide +kernel
theorem dX12_tupletsOf_12 : decode cX12_tupletsOf 12 = .ok (.iload_n 2, 1) := by decide +kernel
theorem dX12_tupletsOf_13 : decode cX12_tupletsOf 13 = .ok (.aload_n 0, 1) := by decide +kernel
theorem dX12_tupletsOf_14 : decode cX12_tupletsOf 14 = .ok (.iload_n 1, 1) := by decide +kernel
theorem dX12_tupletsOf_15 : decode cX12_tupletsOf 15 = .ok (.iload_n 3, 1) := by decide +kernel
theorem dX12_tupletsOf_16 : decode cX12_tupletsOf 16 = .ok (.invokevirtual 239, 3) := by decide +kernel
theorem dX12_tupletsOf_19 : decode cX12_tupletsOf 19 = .ok (.ifCond .eq 7, 3) := by decide +kernel
theorem dX12_tupletsOf_22 : decode cX12_tupletsOf 22 = .ok (.iconst 1, 1) := by decide +kernel
theorem dX12_tupletsOf_23 : decode cX12_tupletsOf 23 = .ok (.goto 4, 3) := by decide +kernel
theorem dX12_tupletsOf_26 : decode cX12_tupletsOf 26 = .ok (.iconst 0, 1) := by decide +kernel
theorem dX12_tupletsOf_27 : decode cX12_tupletsOf 27 = .ok (.iadd, 1) := by decide +kernel
theorem dX12_tupletsOf_28 : decode cX12_tupletsOf 28 = .ok (.istore_n 2, 1) := by decide +kernel
theorem dX12_tupletsOf_29 : decode cX12_tupletsOf 29 = .ok (.iinc 3 1, 3) := by decide +kernel
theorem dX12_tupletsOf_32 : decode cX12_tupletsOf 32 = .ok (.goto (-28), 3) := by decide +kernel
theorem dX12_tupletsOf_35 : decode cX12_tupletsOf 35 = .ok (.iload_n 2, 1) := by decide +kernel
theorem dX12_tupletsOf_36 : decode cX12_tupletsOf 36 = .ok (.ireturn, 1) := by decide +kernel
theorem dX12_time_0 : decode cX12_time 0 = .ok (.aload_n 0, 1) := by decide +kernel
theorem dX12_time_1 : decode cX12_time 1 = .ok (.invokevirtual 144, 3) := by decide +kernel
theorem dX12_time_4 : decode cX12_time 4 = .ok (.aload_n 0, 1) := by decide +kernel
theorem dX12_time_5 : decode cX12_time 5 = .ok (.iload_n 1, 1) := by decide +kernel
theorem dX12_time_6 : decode cX12_time 6 = .ok (.invokevirtual 193, 3) := by decide +kernel
theorem dX12_time_9 : decode cX12_time 9 = .ok (.ifCond .eq 15, 3) := by decide +kernel
theorem dX12_time_12 : decode cX12_time 12 = .ok (.iload_n 2, 1) := by decide +kernel
theorem dX12_time_13 : decode cX12_time 13 = .ok (.i2l, 1) := by decide +kernel
theorem dX12_time_14 : decode cX12_time 14 = .ok (.lconst 0, 1) := by decide +kernel
theorem dX12_time_15 : decode cX12_time 15 = .ok (.ldc2_w 147, 3) := by decide +kernel
theorem dX12_time_18 : decode cX12_time 18 = .ok (.invokestatic 137, 3) := by decide +kernel
theorem dX12_time_21 : decode cX12_time 21 = .ok (.ifCond .ne 11, 3) := by decide +kernel
theorem dX12_time_24 : decode cX12_time 24 = .ok (.aload_n 0, 1) := by decide +kernel
theorem dX12_time_25 : decode cX12_time 25 = .ok (.bipush (-2), 2) := by decide +kernel
theorem dX12_time_27 : decode cX12_time 27 = .ok (.invokevirtual 130, 3) := by decide +kernel
theorem dX12_time_30 : decode cX12_time 30 = .ok (.i2l, 1) := by decide +kernel
theorem dX12_time_31 : decode cX12_time 31 = .ok (.lreturn, 1) := by decide +kernel
theorem dX12_time_32 : decode cX12_time 32 = .ok (.aload_n 0, 1) := by decide +kernel
theorem dX12_time_33 : decode cX12_time 33 = .ok (.iload_n 1, 1) := by decide +kernel
theorem dX12_time_34 : decode cX12_time 34 = .ok (.invokevirtual 258, 3) := by decide +kernel
theorem dX12_time_37 : decode cX12_time 37 = .ok (.lstore_n 3, 1) := by decide +kernel
theorem dX12_time_38 : decode cX12_time 38 = .ok (.aload_n 0, 1) := by decide +kernel
theorem dX12_time_39 : decode cX12_time 39 = .ok (.lload_n 3, 1) := by decide +kernel
theorem dX12_time_40 : decode cX12_time 40 = .ok (.invokevirtual 261, 3) := by decide +kernel
theorem dX12_time_43 : decode cX12_time 43 = .ok (.istore 5, 2) := by decide +kernel
theorem dX12_time_45 : decode cX12_time 45 = .ok (.iload_n 2, 1) := by decide +kernel
theorem dX12_time_46 : decode cX12_time 46 = .ok (.iconst 2, 1) := by decide +kernel
theorem dX12_time_47 : decode cX12_time 47 = .ok (.if_icmp .ge 7, 3) := by decide +kernel
theorem dX12_time_50 : decode cX12_time 50 = .ok (.lload_n 3, 1) := by decide +kernel
theorem dX12_time_51 : decode cX12_time 51 = .ok (.goto 34, 3) := by decide +kernel
theorem dX12_time_54 : decode cX12_time 54 = .ok (.iload_n 2, 1) := by decide +kernel
theorem dX12_time_55 : decode cX12_time 55 = .ok (.iconst 4, 1) := by decide +kernel
theorem dX12_time_56 : decode cX12_time 56 = .ok (.if_icmp .ge 11, 3) := by decide +kernel
theorem dX12_time_59 : decode cX12_time 59 = .ok (.aload_n 0, 1) := by decide +kernel
theorem dX12_time_60 : decode cX12_time 60 = .ok (.iload_n 1, 1) := by decide +kernel
theorem dX12_time_61 : decode cX12_time 61 = .ok (.invokevirtual 243, 3) := by decide +kernel
theorem dX12_time_64 : decode cX12_time 64 = .ok (.goto 21, 3) := by decide +kernel
theorem dX12_time_67 : decode cX12_time 67 = .ok (.iload 5, 2) := by decide +kernel
theorem dX12_time_69 : decode cX12_time 69 = .ok (.iconst (-1), 1) := by decide +kernel
theorem dX12_time_70 : decode cX12_time 70 = .ok (.if_icmp .ne 7, 3) := by decide +kernel
theorem dX12_time_73 : decode cX12_time 73 = .ok (.lconst 0, 1) := by decide +kernel
theorem dX12_time_74 : decode cX12_time 74 = .ok (.goto 11, 3) := by decide +kernel
theorem dX12_time_77 : decode cX12_time 77 = .ok (.lload_n 3, 1) := by decide +kernel
theorem dX12_time_78 : decode cX12_time 78 = .ok (.aload_n 0, 1) := by decide +kernel
theorem dX12_time_79 : decode cX12_time 79 = .ok (.iload 5, 2) := by decide +kernel
theorem dX12_time_81 : decode cX12_time 81 = .ok (.invokevirtual 246, 3) := by decide +kernel
theorem dX12_time_84 : decode cX12_time 84 = .ok (.lsub, 1) := by decide +kernel
theorem dX12_time_85 : decode cX12_time 85 = .ok (.lstore 6, 2) := by decide +kernel
theorem dX12_time_87 : decode cX12_time 87 = .ok (.lload 6, 2) := by decide +kernel
theorem dX12_time_89 : decode cX12_time 89 = .ok (.iload_n 2, 1) := by decide +kernel
theorem dX12_time_90 : decode cX12_time 90 = .ok (.iconst 2, 1) := by decide +kernel
theorem dX12_time_91 : decode cX12_time 91 = .ok (.irem, 1) := by decide +kernel
theorem dX12_time_92 : decode cX12_time 92 = .ok (.iconst 1, 1) := by decide +kernel
theorem dX12_time_93 : decode cX12_time 93 = .ok (.if_icmp .ne 7, 3) := by decide +kernel
theorem dX12_time_96 : decode cX12_time 96 = .ok (.iconst 1, 1) := by decide +kernel
theorem dX12_time_97 : decode cX12_time 97 = .ok (.goto 4, 3) := by decide +kernel
theorem dX12_time_100 : decode cX12_time 100 = .ok (.iconst 0, 1) := by decide +kernel
theorem dX12_time_101 : decode cX12_time 101 = .ok (.invokestatic 265, 3) := by decide +kernel
theorem dX12_time_104 : decode cX12_time 104 = .ok (.lreturn, 1) := by decide +kernel
theorem dX12_length_0 : decode cX12_length 0 = .ok (.aload_n 0, 1) := by decide +kernel
theorem dX12_length_1 : decode cX12_length 1 = .ok (.invokevirtual 144, 3) := by decide +kernel
theorem dX12_length_4 : decode cX12_length 4 = .ok (.aload_n 0, 1) := by decide +kernel
theorem dX12_length_5 : decode cX12_length 5 = .ok (.iload_n 1, 1) := by decide +kernel
theorem dX12_length_6 : decode cX12_length 6 = .ok (.invokevirtual 184, 3) := by decide +kernel
theorem dX12_length_9 : decode cX12_length 9 = .ok (.ifCond .eq 13, 3) := by decide +kernel
theorem dX12_length_12 : decode cX12_length 12 = .ok (.iload_n 2, 1) := by decide +kernel
theorem dX12_length_13 : decode cX12_length 13 = .ok (.i2l, 1) := by decide +kernel
theorem dX12_length_14 : decode cX12_length 14 = .ok (.lconst 0, 1) := by decide +kernel
theorem dX12_length_15 : decode cX12_length 15 = .ok (.lconst 1, 1) := by decide +kernel
theorem dX12_length_16 : decode cX12_length 16 = .ok (.invokestatic 137, 3) := by decide +kernel
theorem dX12_length_19 : decode cX12_length 19 = .ok (.ifCond .ne 11, 3) := by decide +kernel
theorem dX12_length_22 : decode cX12_length 22 = .ok (.aload_n 0, 1) := by decide +kernel
theorem dX12_length_23 : decode cX12_length 23 = .ok (.bipush (-2), 2) := by decide +kernel
theorem dX12_length_25 : decode cX12_length 25 = .ok (.invokevirtual 130, 3) := by decide +kernel
theorem dX12_length_28 : decode cX12_length 28 = .ok (.i2l, 1) := by decide +kernel
theorem dX12_length_29 : decode cX12_length 29 = .ok (.lreturn, 1) := by decide +kernel
theorem dX12_length_30 : decode cX12_length 30 = .ok (.aload_n 0, 1) := by decide +kernel
theorem dX12_length_31 : decode cX12_length 31 = .ok (.iload_n 1, 1) := by decide +kernel
theorem dX12_length_32 : decode cX12_length 32 = .ok (.invokevirtual 269, 3) := by decide +kernel
theorem dX12_length_35 : decode cX12_length 35 = .ok (.iload_n 2, 1) := by decide +kernel
theorem dX12_length_36 : decode cX12_length 36 = .ok (.iconst 1, 1) := by decide +kernel
theorem dX12_length_37 : decode cX12_length 37 = .ok (.if_icmp .ne 7, 3) := by decide +kernel
theorem dX12_length_40 : decode cX12_length 40 = .ok (.iconst 1, 1) := by decide +kernel
theorem dX12_length_41 : decode cX12_length 41 = .ok (.goto 4, 3) := by decide +kernel
theorem dX12_length_44 : decode cX12_length 44 = .ok (.iconst 0, 1) := by decide +kernel
theorem dX12_length_45 : decode cX12_length 45 = .ok (.invokestatic 265, 3) := by decide +kernel
theorem dX12_length_48 : decode cX12_length 48 = .ok (.lreturn, 1) := by decide +kernel
theorem dX12_event_0 : decode cX12_event 0 = .ok (.aload_n 0, 1) := by decide +kernel
theorem dX12_event_1 : decode cX12_event 1 = .ok (.invokevirtual 144, 3) := by decide +kernel
theorem dX12_event_4 : decode cX12_event 4 = .ok (.aload_n 0, 1) := by decide +kernel
theorem dX12_event_5 : decode cX12_event 5 = .ok (.iload_n 1, 1) := by decide +kernel
theorem dX12_event_6 : decode cX12_event 6 = .ok (.invokevirtual 184, 3) := by decide +kernel
theorem dX12_event_9 : decode cX12_event 9 = .ok (.ifCond .ne 10, 3) := by decide +kernel
theorem dX12_event_12 : decode cX12_event 12 = .ok (.aload_n 0, 1) := by decide +kernel
theorem dX12_event_13 : decode cX12_event 13 = .ok (.bipush (-2), 2) := by decide +kernel
theorem dX12_event_15 : decode cX12_event 15 = .ok (.invokevirtual 130, 3) := by decide +kernel
theorem dX12_event_18 : decode cX12_event 18 = .ok (.ireturn, 1) := by decide +kernel
theorem dX12_event_19 : decode cX12_event 19 = .ok (.iload_n 2, 1) := by decide +kernel
theorem dX12_event_20 : decode cX12_event 20 = .ok (.i2l, 1) := by decide +kernel
theorem dX12_event_21 : decode cX12_event 21 = .ok (.lconst 0, 1) := by decide +kernel
theorem dX12_event_22 : decode cX12_event 22 = .ok (.aload_n 0, 1) := by decide +kernel
theorem dX12_event_23 : decode cX12_event 23 = .ok (.getfield 45, 3) := by decide +kernel
theorem dX12_event_26 : decode cX12_event 26 = .ok (.iload_n 1, 1) := by decide +kernel
theorem dX12_event_27 : decode cX12_event 27 = .ok (.iaload, 1) := by decide +kernel
theorem dX12_event_28 : decode cX12_event 28 = .ok (.iconst 1, 1) := by decide +kernel
theorem dX12_event_29 : decode cX12_event 29 = .ok (.isub, 1) := by decide +kernel
theorem dX12_event_30 : decode cX12_event 30 = .ok (.i2l, 1) := by decide +kernel
theorem dX12_event_31 : decode cX12_event 31 = .ok (.invokestatic 137, 3) := by decide +kernel
theorem dX12_event_34 : decode cX12_event 34 = .ok (.ifCond .eq 17, 3) := by decide +kernel
theorem dX12_event_37 : decode cX12_event 37 = .ok (.aload_n 0, 1) := by decide +kernel
theorem dX12_event_38 : decode cX12_event 38 = .ok (.getfield 42, 3) := by decide +kernel
theorem dX12_event_41 : decode cX12_event 41 = .ok (.bipush 40, 2) := by decide +kernel
theorem dX12_event_43 : decode cX12_event 43 = .ok (.iload_n 1, 1) := by decide +kernel
theorem dX12_event_44 : decode cX12_event 44 = .ok (.imul, 1) := by decide +kernel
theorem dX12_event_45 : decode cX12_event 45 = .ok (.iload_n 2, 1) := by decide +kernel
theorem dX12_event_46 : decode cX12_event 46 = .ok (.iadd, 1) := by decide +kernel
theorem dX12_event_47 : decode cX12_event 47 = .ok (.iaload, 1) := by decide +kernel
theorem dX12_event_48 : decode cX12_event 48 = .ok (.goto 4, 3) := by decide +kernel
theorem dX12_event_51 : decode cX12_event 51 = .ok (.iconst (-1), 1) := by decide +kernel
theorem dX12_event_52 : decode cX12_event 52 = .ok (.ireturn, 1) := by decide +kernel
theorem dX12_tuplet_0 : decode cX12_tuplet 0 = .ok (.aload_n 0, 1) := by decide +kernel
theorem dX12_tuplet_1 : decode cX12_tuplet 1 = .ok (.invokevirtual 144, 3) := by decide +kernel
theorem dX12_tuplet_4 : decode cX12_tuplet 4 = .ok (.iload 4, 2) := by decide +kernel
theorem dX12_tuplet_6 : decode cX12_tuplet 6 = .ok (.iconst 3, 1) := by decide +kernel
theorem dX12_tuplet_7 : decode cX12_tuplet 7 = .ok (.if_icmp .eq 23, 3) := by decide +kernel
theorem dX12_tuplet_10 : decode cX12_tuplet 10 = .ok (.iload 4, 2) := by decide +kernel
theorem dX12_tuplet_12 : decode cX12_tuplet 12 = .ok (.iconst 5, 1) := by decide +kernel
theorem dX12_tuplet_13 : decode cX12_tuplet 13 = .ok (.if_icmp .eq 17, 3) := by decide +kernel
theorem dX12_tuplet_16 : decode cX12_tuplet 16 = .ok (.iload 4, 2) := by decide +kernel
theorem dX12_tuplet_18 : decode cX12_tuplet 18 = .ok (.bipush 6, 2) := by decide +kernel
theorem dX12_tuplet_20 : decode cX12_tuplet 20 = .ok (.if_icmp .eq 10, 3) := by decide +kernel
theorem dX12_tuplet_23 : decode cX12_tuplet 23 = .ok (.iload 4, 2) := by decide +kernel
theorem dX12_tuplet_25 : decode cX12_tuplet 25 = .ok (.bipush 7, 2) := by decide +kernel
theorem dX12_tuplet_27 : decode cX12_tuplet 27 = .ok (.if_icmp .ne 7, 3) := by decide +kernel
theorem dX12_tuplet_30 : decode cX12_tuplet 30 = .ok (.iconst 1, 1) := by decide +kernel
theorem dX12_tuplet_31 : decode cX12_tuplet 31 = .ok (.goto 4, 3) := by decide +kernel
theorem dX12_tuplet_34 : decode cX12_tuplet 34 = .ok (.iconst 0, 1) := by decide +kernel
theorem dX12_tuplet_35 : decode cX12_tuplet 35 = .ok (.istore 7, 2) := by decide +kernel
theorem dX12_tuplet_37 : decode cX12_tuplet 37 = .ok (.aload_n 0, 1) := by decide +kernel
theorem dX12_tuplet_38 : decode cX12_tuplet 38 = .ok (.iload_n 1, 1) := by decide +kernel
theorem dX12_tuplet_39 : decode cX12_tuplet 39 = .ok (.invokevirtual 184, 3) := by decide +kernel
theorem dX12_tuplet_42 : decode cX12_tuplet 42 = .ok (.ifCond .eq 59, 3) := by decide +kernel
theorem dX12_tuplet_45 : decode cX12_tuplet 45 = .ok (.iload_n 2, 1) := by decide +kernel
theorem dX12_tuplet_46 : decode cX12_tuplet 46 = .ok (.ifCond .lt 55, 3) := by decide +kernel
theorem dX12_tuplet_49 : decode cX12_tuplet 49 = .ok (.iload_n 3, 1) := by decide +kernel
theorem dX12_tuplet_50 : decode cX12_tuplet 50 = .ok (.iconst 1, 1) := by decide +kernel
theorem dX12_tuplet_51 : decode cX12_tuplet 51 = .ok (.if_icmp .lt 50, 3) := by decide +kernel
theorem dX12_tuplet_54 : decode cX12_tuplet 54 = .ok (.iload_n 2, 1) := by decide +kernel
theorem dX12_tuplet_55 : decode cX12_tuplet 55 = .ok (.i2l, 1) := by decide +kernel
theorem dX12_tuplet_56 : decode cX12_tuplet 56 = .ok (.iload_n 3, 1) := by decide +kernel
theorem dX12_tuplet_57 : decode cX12_tuplet 57 = .ok (.i2l, 1) := by decide +kernel
theorem dX12_tuplet_58 : decode cX12_tuplet 58 = .ok (.ladd, 1) := by decide +kernel
theorem dX12_tuplet_59 : decode cX12_tuplet 59 = .ok (.aload_n 0, 1) := by decide +kernel
theorem dX12_tuplet_60 : decode cX12_tuplet 60 = .ok (.getfield 45, 3) := by decide +kernel
theorem dX12_tuplet_63 : decode cX12_tuplet 63 = .ok (.iload_n 1, 1) := by decide +kernel
theorem dX12_tuplet_64 : decode cX12_tuplet 64 = .ok (.iaload, 1) := by decide +kernel
theorem dX12_tuplet_65 : decode cX12_tuplet 65 = .ok (.i2l, 1) := by decide +kernel
theorem dX12_tuplet_66 : decode cX12_tuplet 66 = .ok (.lcmp, 1) := by decide +kernel
theorem dX12_tuplet_67 : decode cX12_tuplet 67 = .ok (.ifCond .gt 34, 3) := by decide +kernel
theorem dX12_tuplet_70 : decode cX12_tuplet 70 = .ok (.iload 7, 2) := by decide +kernel
theorem dX12_tuplet_72 : decode cX12_tuplet 72 = .ok (.ifCond .eq 29, 3) := by decide +kernel
theorem dX12_tuplet_75 : decode cX12_tuplet 75 = .ok (.iload 5, 2) := by decide +kernel
theorem dX12_tuplet_77 : decode cX12_tuplet 77 = .ok (.i2l, 1) := by decide +kernel
theorem dX12_tuplet_78 : decode cX12_tuplet 78 = .ok (.lconst 1, 1) := by decide +kernel
theorem dX12_tuplet_79 : decode cX12_tuplet 79 = .ok (.ldc2_w 253, 3) := by decide +kernel
theorem dX12_tuplet_82 : decode cX12_tuplet 82 = .ok (.invokestatic 137, 3) := by decide +kernel
theorem dX12_tuplet_85 : decode cX12_tuplet 85 = .ok (.ifCond .eq 16, 3) := by decide +kernel
theorem dX12_tuplet_88 : decode cX12_tuplet 88 = .ok (.iload 6, 2) := by decide +kernel
theorem dX12_tuplet_90 : decode cX12_tuplet 90 = .ok (.i2l, 1) := by decide +kernel
theorem dX12_tuplet_91 : decode cX12_tuplet 91 = .ok (.lconst 0, 1) := by decide +kernel
theorem dX12_tuplet_92 : decode cX12_tuplet 92 = .ok (.ldc2_w 147, 3) := by decide +kernel
theorem dX12_tuplet_95 : decode cX12_tuplet 95 = .ok (.invokestatic 137, 3) := by decide +kernel
theorem dX12_tuplet_98 : decode cX12_tuplet 98 = .ok (.ifCond .ne 10, 3) := by decide +kernel
theorem dX12_tuplet_101 : decode cX12_tuplet 101 = .ok (.aload_n 0, 1) := by decide +kernel
theorem dX12_tuplet_102 : decode cX12_tuplet 102 = .ok (.bipush (-2), 2) := by decide +kernel
theorem dX12_tuplet_104 : decode cX12_tuplet 104 = .ok (.invokevirtual 130, 3) := by decide +kernel
theorem dX12_tuplet_107 : decode cX12_tuplet 107 = .ok (.ireturn, 1) := by decide +kernel
theorem dX12_tuplet_108 : decode cX12_tuplet 108 = .ok (.iload_n 2, 1) := by decide +kernel
theorem dX12_tuplet_109 : decode cX12_tuplet 109 = .ok (.iload_n 3, 1) := by decide +kernel
theorem dX12_tuplet_110 : decode cX12_tuplet 110 = .ok (.iadd, 1) := by decide +kernel
theorem dX12_tuplet_111 : decode cX12_tuplet 111 = .ok (.iconst 1, 1) := by decide +kernel
theorem dX12_tuplet_112 : decode cX12_tuplet 112 = .ok (.isub, 1) := by decide +kernel
theorem dX12_tuplet_113 : decode cX12_tuplet 113 = .ok (.istore 8, 2) := by decide +kernel
theorem dX12_tuplet_115 : decode cX12_tuplet 115 = .ok (.iconst 0, 1) := by decide +kernel
theorem dX12_tuplet_116 : decode cX12_tuplet 116 = .ok (.istore 9, 2) := by decide +kernel
theorem dX12_tuplet_118 : decode cX12_tuplet 118 = .ok (.iload 9, 2) := by decide +kernel
theorem dX12_tuplet_120 : decode cX12_tuplet 120 = .ok (.aload_n 0, 1) := by decide +kernel
theorem dX12_tuplet_121 : decode cX12_tuplet 121 = .ok (.getfield 199, 3) := by decide +kernel
theorem dX12_tuplet_124 : decode cX12_tuplet 124 = .ok (.if_icmp .ge 114, 3) := by decide +kernel
theorem dX12_tuplet_127 : decode cX12_tuplet 127 = .ok (.aload_n 0, 1) := by decide +kernel
theorem dX12_tuplet_128 : decode cX12_tuplet 128 = .ok (.getfield 48, 3) := by decide +kernel
theorem dX12_tuplet_131 : decode cX12_tuplet 131 = .ok (.iload 9, 2) := by decide +kernel
theorem dX12_tuplet_133 : decode cX12_tuplet 133 = .ok (.baload, 1) := by decide +kernel
theorem dX12_tuplet_134 : decode cX12_tuplet 134 = .ok (.ifCond .eq 98, 3) := by decide +kernel
theorem dX12_tuplet_137 : decode cX12_tuplet 137 = .ok (.aload_n 0, 1) := by decide +kernel
theorem dX12_tuplet_138 : decode cX12_tuplet 138 = .ok (.getfield 51, 3) := by decide +kernel
theorem dX12_tuplet_141 : decode cX12_tuplet 141 = .ok (.iload 9, 2) := by decide +kernel
theorem dX12_tuplet_143 : decode cX12_tuplet 143 = .ok (.iaload, 1) := by decide +kernel
theorem dX12_tuplet_144 : decode cX12_tuplet 144 = .ok (.iload_n 1, 1) := by decide +kernel
theorem dX12_tuplet_145 : decode cX12_tuplet 145 = .ok (.if_icmp .ne 87, 3) := by decide +kernel
theorem dX12_tuplet_148 : decode cX12_tuplet 148 = .ok (.aload_n 0, 1) := by decide +kernel
theorem dX12_tuplet_149 : decode cX12_tuplet 149 = .ok (.aload_n 0, 1) := by decide +kernel
theorem dX12_tuplet_150 : decode cX12_tuplet 150 = .ok (.getfield 54, 3) := by decide +kernel
theorem dX12_tuplet_153 : decode cX12_tuplet 153 = .ok (.iload 9, 2) := by decide +kernel
theorem dX12_tuplet_155 : decode cX12_tuplet 155 = .ok (.iaload, 1) := by decide +kernel
theorem dX12_tuplet_156 : decode cX12_tuplet 156 = .ok (.invokevirtual 196, 3) := by decide +kernel
theorem dX12_tuplet_159 : decode cX12_tuplet 159 = .ok (.istore 10, 2) := by decide +kernel
theorem dX12_tuplet_161 : decode cX12_tuplet 161 = .ok (.aload_n 0, 1) := by decide +kernel
theorem dX12_tuplet_162 : decode cX12_tuplet 162 = .ok (.aload_n 0, 1) := by decide +kernel
theorem dX12_tuplet_163 : decode cX12_tuplet 163 = .ok (.getfield 57, 3) := by decide +kernel
theorem dX12_tuplet_166 : decode cX12_tuplet 166 = .ok (.iload 9, 2) := by decide +kernel
theorem dX12_tuplet_168 : decode cX12_tuplet 168 = .ok (.iaload, 1) := by decide +kernel
theorem dX12_tuplet_169 : decode cX12_tuplet 169 = .ok (.invokevirtual 196, 3) := by decide +kernel
theorem dX12_tuplet_172 : decode cX12_tuplet 172 = .ok (.istore 11, 2) := by decide +kernel
theorem dX12_tuplet_174 : decode cX12_tuplet 174 = .ok (.iload 11, 2) := by decide +kernel
theorem dX12_tuplet_176 : decode cX12_tuplet 176 = .ok (.iload_n 2, 1) := by decide +kernel
theorem dX12_tuplet_177 : decode cX12_tuplet 177 = .ok (.if_icmp .lt 10, 3) := by decide +kernel
theorem dX12_tuplet_180 : decode cX12_tuplet 180 = .ok (.iload 10, 2) := by decide +kernel
theorem dX12_tuplet_182 : decode cX12_tuplet 182 = .ok (.iload 8, 2) := by decide +kernel
theorem dX12_tuplet_184 : decode cX12_tuplet 184 = .ok (.if_icmp .le 7, 3) := by decide +kernel
theorem dX12_tuplet_187 : decode cX12_tuplet 187 = .ok (.iconst 1, 1) := by decide +kernel
theorem dX12_tuplet_188 : decode cX12_tuplet 188 = .ok (.goto 4, 3) := by decide +kernel
theorem dX12_tuplet_191 : decode cX12_tuplet 191 = .ok (.iconst 0, 1) := by decide +kernel
theorem dX12_tuplet_192 : decode cX12_tuplet 192 = .ok (.istore 12, 2) := by decide +kernel
theorem dX12_tuplet_194 : decode cX12_tuplet 194 = .ok (.iload 12, 2) := by decide +kernel
theorem dX12_tuplet_196 : decode cX12_tuplet 196 = .ok (.ifCond .ne 36, 3) := by decide +kernel
theorem dX12_tuplet_199 : decode cX12_tuplet 199 = .ok (.iload 10, 2) := by decide +kernel
theorem dX12_tuplet_201 : decode cX12_tuplet 201 = .ok (.iload_n 2, 1) := by decide +kernel
theorem dX12_tuplet_202 : decode cX12_tuplet 202 = .ok (.if_icmp .gt 10, 3) := by decide +kernel
theorem dX12_tuplet_205 : decode cX12_tuplet 205 = .ok (.iload 8, 2) := by decide +kernel
theorem dX12_tuplet_207 : decode cX12_tuplet 207 = .ok (.iload 11, 2) := by decide +kernel
theorem dX12_tuplet_209 : decode cX12_tuplet 209 = .ok (.if_icmp .le 23, 3) := by decide +kernel
theorem dX12_tuplet_212 : decode cX12_tuplet 212 = .ok (.iload_n 2, 1) := by decide +kernel
theorem dX12_tuplet_213 : decode cX12_tuplet 213 = .ok (.iload 10, 2) := by decide +kernel
theorem dX12_tuplet_215 : decode cX12_tuplet 215 = .ok (.if_icmp .gt 10, 3) := by decide +kernel
theorem dX12_tuplet_218 : decode cX12_tuplet 218 = .ok (.iload 11, 2) := by decide +kernel
theorem dX12_tuplet_220 : decode cX12_tuplet 220 = .ok (.iload 8, 2) := by decide +kernel
theorem dX12_tuplet_222 : decode cX12_tuplet 222 = .ok (.if_icmp .le 10, 3) := by decide +kernel
theorem dX12_tuplet_225 : decode cX12_tuplet 225 = .ok (.aload_n 0, 1) := by decide +kernel
theorem dX12_tuplet_226 : decode cX12_tuplet 226 = .ok (.bipush (-3), 2) := by decide +kernel
theorem dX12_tuplet_228 : decode cX12_tuplet 228 = .ok (.invokevirtual 130, 3) := by decide +kernel
theorem dX12_tuplet_231 : decode cX12_tuplet 231 = .ok (.ireturn, 1) := by decide +kernel
theorem dX12_tuplet_232 : decode cX12_tuplet 232 = .ok (.iinc 9 1, 3) := by decide +kernel
theorem dX12_tuplet_235 : decode cX12_tuplet 235 = .ok (.goto (-117), 3) := by decide +kernel
theorem dX12_tuplet_238 : decode cX12_tuplet 238 = .ok (.iload_n 2, 1) := by decide +kernel
theorem dX12_tuplet_239 : decode cX12_tuplet 239 = .ok (.istore 9, 2) := by decide +kernel
theorem dX12_tuplet_241 : decode cX12_tuplet 241 = .ok (.iload 9, 2) := by decide +kernel
theorem dX12_tuplet_243 : decode cX12_tuplet 243 = .ok (.iload 8, 2) := by decide +kernel
theorem dX12_tuplet_245 : decode cX12_tuplet 245 = .ok (.if_icmp .gt 36, 3) := by decide +kernel
theorem dX12_tuplet_248 : decode cX12_tuplet 248 = .ok (.aload_n 0, 1) := by decide +kernel
theorem dX12_tuplet_249 : decode cX12_tuplet 249 = .ok (.aload_n 0, 1) := by decide +kernel
theorem dX12_tuplet_250 : decode cX12_tuplet 250 = .ok (.getfield 42, 3) := by decide +kernel
theorem dX12_tuplet_253 : decode cX12_tuplet 253 = .ok (.bipush 40, 2) := by decide +kernel
theorem dX12_tuplet_255 : decode cX12_tuplet 255 = .ok (.iload_n 1, 1) := by decide +kernel
theorem dX12_tuplet_256 : decode cX12_tuplet 256 = .ok (.imul, 1) := by decide +kernel
theorem dX12_tuplet_257 : decode cX12_tuplet 257 = .ok (.iload 9, 2) := by decide +kernel
theorem dX12_tuplet_259 : decode cX12_tuplet 259 = .ok (.iadd, 1) := by decide +kernel
theorem dX12_tuplet_260 : decode cX12_tuplet 260 = .ok (.iaload, 1) := by decide +kernel
theorem dX12_tuplet_261 : decode cX12_tuplet 261 = .ok (.invokevirtual 255, 3) := by decide +kernel
theorem dX12_tuplet_264 : decode cX12_tuplet 264 = .ok (.iconst 1, 1) := by decide +kernel
theorem dX12_tuplet_265 : decode cX12_tuplet 265 = .ok (.if_icmp .le 10, 3) := by decide +kernel
theorem dX12_tuplet_268 : decode cX12_tuplet 268 = .ok (.aload_n 0, 1) := by decide +kernel
theorem dX12_tuplet_269 : decode cX12_tuplet 269 = .ok (.bipush (-3), 2) := by decide +kernel
theorem dX12_tuplet_271 : decode cX12_tuplet 271 = .ok (.invokevirtual 130, 3) := by decide +kernel
theorem dX12_tuplet_274 : decode cX12_tuplet 274 = .ok (.ireturn, 1) := by decide +kernel
theorem dX12_tuplet_275 : decode cX12_tuplet 275 = .ok (.iinc 9 1, 3) := by decide +kernel
theorem dX12_tuplet_278 : decode cX12_tuplet 278 = .ok (.goto (-37), 3) := by decide +kernel
theorem dX12_tuplet_281 : decode cX12_tuplet 281 = .ok (.aload_n 0, 1) := by decide +kernel
theorem dX12_tuplet_282 : decode cX12_tuplet 282 = .ok (.getfield 199, 3) := by decide +kernel
theorem dX12_tuplet_285 : decode cX12_tuplet 285 = .ok (.bipush 20, 2) := by decide +kernel
theorem dX12_tuplet_287 : decode cX12_tuplet 287 = .ok (.if_icmp .ne 10, 3) := by decide +kernel
theorem dX12_tuplet_290 : decode cX12_tuplet 290 = .ok (.aload_n 0, 1) := by decide +kernel
theorem dX12_tuplet_291 : decode cX12_tuplet 291 = .ok (.bipush (-4), 2) := by decide +kernel
theorem dX12_tuplet_293 : decode cX12_tuplet 293 = .ok (.invokevirtual 130, 3) := by decide +kernel
theorem dX12_tuplet_296 : decode cX12_tuplet 296 = .ok (.ireturn, 1) := by decide +kernel
theorem dX12_tuplet_297 : decode cX12_tuplet 297 = .ok (.aload_n 0, 1) := by decide +kernel
theorem dX12_tuplet_298 : decode cX12_tuplet 298 = .ok (.getfield 199, 3) := by decide +kernel
theorem dX12_tuplet_301 : decode cX12_tuplet 301 = .ok (.istore 9, 2) := by decide +kernel
theorem dX12_tuplet_303 : decode cX12_tuplet 303 = .ok (.aload_n 0, 1) := by decide +kernel
theorem dX12_tuplet_304 : decode cX12_tuplet 304 = .ok (.dup, 1) := by decide +kernel
theorem dX12_tuplet_305 : decode cX12_tuplet 305 = .ok (.getfield 199, 3) := by decide +kernel
theorem dX12_tuplet_308 : decode cX12_tuplet 308 = .ok (.iconst 1, 1) := by decide +kernel
theorem dX12_tuplet_309 : decode cX12_tuplet 309 = .ok (.iadd, 1) := by decide +kernel
theorem dX12_tuplet_310 : decode cX12_tuplet 310 = .ok (.putfield 199, 3) := by decide +kernel
theorem dX12_tuplet_313 : decode cX12_tuplet 313 = .ok (.aload_n 0, 1) := by decide +kernel
theorem dX12_tuplet_314 : decode cX12_tuplet 314 = .ok (.dup, 1) := by decide +kernel
theorem dX12_tuplet_315 : decode cX12_tuplet 315 = .ok (.getfield 202, 3) := by decide +kernel
theorem dX12_tuplet_318 : decode cX12_tuplet 318 = .ok (.iconst 1, 1) := by decide +kernel
theorem dX12_tuplet_319 : decode cX12_tuplet 319 = .ok (.iadd, 1) := by decide +kernel
theorem dX12_tuplet_320 : decode cX12_tuplet 320 = .ok (.putfield 202, 3) := by decide +kernel
theorem dX12_tuplet_323 : decode cX12_tuplet 323 = .ok (.aload_n 0, 1) := by decide +kernel
theorem dX12_tuplet_324 : decode cX12_tuplet 324 = .ok (.getfield 48, 3) := by decide +kernel
theorem dX12_tuplet_327 : decode cX12_tuplet 327 = .ok (.iload 9, 2) := by decide +kernel
theorem dX12_tuplet_329 : decode cX12_tuplet 329 = .ok (.iconst 1, 1) := by decide +kernel
theorem dX12_tuplet_330 : decode cX12_tuplet 330 = .ok (.bastore, 1) := by decide +kernel
theorem dX12_tuplet_331 : decode cX12_tuplet 331 = .ok (.aload_n 0, 1) := by decide +kernel
theorem dX12_tuplet_332 : decode cX12_tuplet 332 = .ok (.getfield 51, 3) := by decide +kernel
theorem dX12_tuplet_335 : decode cX12_tuplet 335 = .ok (.iload 9, 2) := by decide +kernel
theorem dX12_tuplet_337 : decode cX12_tuplet 337 = .ok (.iload_n 1, 1) := by decide +kernel
theorem dX12_tuplet_338 : decode cX12_tuplet 338 = .ok (.iastore, 1) := by decide +kernel
theorem dX12_tuplet_339 : decode cX12_tuplet 339 = .ok (.aload_n 0, 1) := by decide +kernel
theorem dX12_tuplet_340 : decode cX12_tuplet 340 = .ok (.getfield 54, 3) := by decide +kernel
theorem dX12_tuplet_343 : decode cX12_tuplet 343 = .ok (.iload 9, 2) := by decide +kernel
theorem dX12_tuplet_345 : decode cX12_tuplet 345 = .ok (.aload_n 0, 1) := by decide +kernel
theorem dX12_tuplet_346 : decode cX12_tuplet 346 = .ok (.getfield 42, 3) := by decide +kernel
theorem dX12_tuplet_349 : decode cX12_tuplet 349 = .ok (.bipush 40, 2) := by decide +kernel
theorem dX12_tuplet_351 : decode cX12_tuplet 351 = .ok (.iload_n 1, 1) := by decide +kernel
theorem dX12_tuplet_352 : decode cX12_tuplet 352 = .ok (.imul, 1) := by decide +kernel
theorem dX12_tuplet_353 : decode cX12_tuplet 353 = .ok (.iload_n 2, 1) := by decide +kernel
theorem dX12_tuplet_354 : decode cX12_tuplet 354 = .ok (.iadd, 1) := by decide +kernel
theorem dX12_tuplet_355 : decode cX12_tuplet 355 = .ok (.iaload, 1) := by decide +kernel
theorem dX12_tuplet_356 : decode cX12_tuplet 356 = .ok (.iastore, 1) := by decide +kernel
theorem dX12_tuplet_357 : decode cX12_tuplet 357 = .ok (.aload_n 0, 1) := by decide +kernel
theorem dX12_tuplet_358 : decode cX12_tuplet 358 = .ok (.getfield 57, 3) := by decide +kernel
theorem dX12_tuplet_361 : decode cX12_tuplet 361 = .ok (.iload 9, 2) := by decide +kernel
theorem dX12_tuplet_363 : decode cX12_tuplet 363 = .ok (.aload_n 0, 1) := by decide +kernel
theorem dX12_tuplet_364 : decode cX12_tuplet 364 = .ok (.getfield 42, 3) := by decide +kernel
theorem dX12_tuplet_367 : decode cX12_tuplet 367 = .ok (.bipush 40, 2) := by decide +kernel
theorem dX12_tuplet_369 : decode cX12_tuplet 369 = .ok (.iload_n 1, 1) := by decide +kernel
theorem dX12_tuplet_370 : decode cX12_tuplet 370 = .ok (.imul, 1) := by decide +kernel
theorem dX12_tuplet_371 : decode cX12_tuplet 371 = .ok (.iload 8, 2) := by decide +kernel
theorem dX12_tuplet_373 : decode cX12_tuplet 373 = .ok (.iadd, 1) := by decide +kernel
theorem dX12_tuplet_374 : decode cX12_tuplet 374 = .ok (.iaload, 1) := by decide +kernel
theorem dX12_tuplet_375 : decode cX12_tuplet 375 = .ok (.iastore, 1) := by decide +kernel
theorem dX12_tuplet_376 : decode cX12_tuplet 376 = .ok (.aload_n 0, 1) := by decide +kernel
theorem dX12_tuplet_377 : decode cX12_tuplet 377 = .ok (.getfield 60, 3) := by decide +kernel
theorem dX12_tuplet_380 : decode cX12_tuplet 380 = .ok (.iload 9, 2) := by decide +kernel
theorem dX12_tuplet_382 : decode cX12_tuplet 382 = .ok (.iload 4, 2) := by decide +kernel
theorem dX12_tuplet_384 : decode cX12_tuplet 384 = .ok (.iastore, 1) := by decide +kernel
theorem dX12_tuplet_385 : decode cX12_tuplet 385 = .ok (.aload_n 0, 1) := by decide +kernel
theorem dX12_tuplet_386 : decode cX12_tuplet 386 = .ok (.getfield 63, 3) := by decide +kernel
theorem dX12_tuplet_389 : decode cX12_tuplet 389 = .ok (.iload 9, 2) := by decide +kernel
theorem dX12_tuplet_391 : decode cX12_tuplet 391 = .ok (.iload 5, 2) := by decide +kernel
theorem dX12_tuplet_393 : decode cX12_tuplet 393 = .ok (.iastore, 1) := by decide +kernel
theorem dX12_tuplet_394 : decode cX12_tuplet 394 = .ok (.aload_n 0, 1) := by decide +kernel
theorem dX12_tuplet_395 : decode cX12_tuplet 395 = .ok (.getfield 66, 3) := by decide +kernel
theorem dX12_tuplet_398 : decode cX12_tuplet 398 = .ok (.iload 9, 2) := by decide +kernel
theorem dX12_tuplet_400 : decode cX12_tuplet 400 = .ok (.iload 6, 2) := by decide +kernel
theorem dX12_tuplet_402 : decode cX12_tuplet 402 = .ok (.iastore, 1) := by decide +kernel
theorem dX12_tuplet_403 : decode cX12_tuplet 403 = .ok (.iload 9, 2) := by decide +kernel
theorem dX12_tuplet_405 : decode cX12_tuplet 405 = .ok (.ireturn, 1) := by decide +kernel
theorem dX12_hasTuplet_0 : decode cX12_hasTuplet 0 = .ok (.iload_n 1, 1) := by decide +kernel
theorem dX12_hasTuplet_1 : decode cX12_hasTuplet 1 = .ok (.i2l, 1) := by decide +kernel
theorem dX12_hasTuplet_2 : decode cX12_hasTuplet 2 = .ok (.lconst 0, 1) := by decide +kernel
theorem dX12_hasTuplet_3 : decode cX12_hasTuplet 3 = .ok (.aload_n 0, 1) := by decide +kernel
theorem dX12_hasTuplet_4 : decode cX12_hasTuplet 4 = .ok (.getfield 199, 3) := by decide +kernel
theorem dX12_hasTuplet_7 : decode cX12_hasTuplet 7 = .ok (.iconst 1, 1) := by decide +kernel
theorem dX12_hasTuplet_8 : decode cX12_hasTuplet 8 = .ok (.isub, 1) := by decide +kernel
theorem dX12_hasTuplet_9 : decode cX12_hasTuplet 9 = .ok (.i2l, 1) := by decide +kernel
theorem dX12_hasTuplet_10 : decode cX12_hasTuplet 10 = .ok (.invokestatic 137, 3) := by decide +kernel
theorem dX12_hasTuplet_13 : decode cX12_hasTuplet 13 = .ok (.ifCond .eq 16, 3) := by decide +kernel
theorem dX12_hasTuplet_16 : decode cX12_hasTuplet 16 = .ok (.aload_n 0, 1) := by decide +kernel
theorem dX12_hasTuplet_17 : decode cX12_hasTuplet 17 = .ok (.getfield 48, 3) := by decide +kernel
theorem dX12_hasTuplet_20 : decode cX12_hasTuplet 20 = .ok (.iload_n 1, 1) := by decide +kernel
theorem dX12_hasTuplet_21 : decode cX12_hasTuplet 21 = .ok (.baload, 1) := by decide +kernel
theorem dX12_hasTuplet_22 : decode cX12_hasTuplet 22 = .ok (.ifCond .eq 7, 3) := by decide +kernel
theorem dX12_hasTuplet_25 : decode cX12_hasTuplet 25 = .ok (.iconst 1, 1) := by decide +kernel
theorem dX12_hasTuplet_26 : decode cX12_hasTuplet 26 = .ok (.goto 4, 3) := by decide +kernel
theorem dX12_hasTuplet_29 : decode cX12_hasTuplet 29 = .ok (.iconst 0, 1) := by decide +kernel
theorem dX12_hasTuplet_30 : decode cX12_hasTuplet 30 = .ok (.ireturn, 1) := by decide +kernel
theorem dX12_sizeOf_0 : decode cX12_sizeOf 0 = .ok (.aload_n 0, 1) := by decide +kernel
theorem dX12_sizeOf_1 : decode cX12_sizeOf 1 = .ok (.aload_n 0, 1) := by decide +kernel
theorem dX12_sizeOf_2 : decode cX12_sizeOf 2 = .ok (.getfield 57, 3) := by decide +kernel
theorem dX12_sizeOf_5 : decode cX12_sizeOf 5 = .ok (.iload_n 1, 1) := by decide +kernel
theorem dX12_sizeOf_6 : decode cX12_sizeOf 6 = .ok (.iaload, 1) := by decide +kernel
theorem dX12_sizeOf_7 : decode cX12_sizeOf 7 = .ok (.invokevirtual 196, 3) := by decide +kernel
theorem dX12_sizeOf_10 : decode cX12_sizeOf 10 = .ok (.aload_n 0, 1) := by decide +kernel
theorem dX12_sizeOf_11 : decode cX12_sizeOf 11 = .ok (.aload_n 0, 1) := by decide +kernel
theorem dX12_sizeOf_12 : decode cX12_sizeOf 12 = .ok (.getfield 54, 3) := by decide +kernel
theorem dX12_sizeOf_15 : decode cX12_sizeOf 15 = .ok (.iload_n 1, 1) := by decide +kernel
theorem dX12_sizeOf_16 : decode cX12_sizeOf 16 = .ok (.iaload, 1) := by decide +kernel
theorem dX12_sizeOf_17 : decode cX12_sizeOf 17 = .ok (.invokevirtual 196, 3) := by decide +kernel
theorem dX12_sizeOf_20 : decode cX12_sizeOf 20 = .ok (.isub, 1) := by decide +kernel
theorem dX12_sizeOf_21 : decode cX12_sizeOf 21 = .ok (.iconst 1, 1) := by decide +kernel
theorem dX12_sizeOf_22 : decode cX12_sizeOf 22 = .ok (.iadd, 1) := by decide +kernel
theorem dX12_sizeOf_23 : decode cX12_sizeOf 23 = .ok (.ireturn, 1) := by decide +kernel
theorem dX12_untuplet_0 : decode cX12_untuplet 0 = .ok (.aload_n 0, 1) := by decide +kernel
theorem dX12_untuplet_1 : decode cX12_untuplet 1 = .ok (.invokevirtual 144, 3) := by decide +kernel
theorem dX12_untuplet_4 : decode cX12_untuplet 4 = .ok (.aload_n 0, 1) := by decide +kernel
theorem dX12_untuplet_5 : decode cX12_untuplet 5 = .ok (.iload_n 1, 1) := by decide +kernel
theorem dX12_untuplet_6 : decode cX12_untuplet 6 = .ok (.invokevirtual 272, 3) := by decide +kernel
theorem dX12_untuplet_9 : decode cX12_untuplet 9 = .ok (.ifCond .ne 10, 3) := by decide +kernel
theorem dX12_untuplet_12 : decode cX12_untuplet 12 = .ok (.aload_n 0, 1) := by decide +kernel
theorem dX12_untuplet_13 : decode cX12_untuplet 13 = .ok (.bipush (-2), 2) := by decide +kernel
theorem dX12_untuplet_15 : decode cX12_untuplet 15 = .ok (.invokevirtual 130, 3) := by decide +kernel
theorem dX12_untuplet_18 : decode cX12_untuplet 18 = .ok (.ireturn, 1) := by decide +kernel
theorem dX12_untuplet_19 : decode cX12_untuplet 19 = .ok (.aload_n 0, 1) := by decide +kernel
theorem dX12_untuplet_20 : decode cX12_untuplet 20 = .ok (.iload_n 1, 1) := by decide +kernel
theorem dX12_untuplet_21 : decode cX12_untuplet 21 = .ok (.invokevirtual 275, 3) := by decide +kernel
theorem dX12_untuplet_24 : decode cX12_untuplet 24 = .ok (.istore_n 2, 1) := by decide +kernel
theorem dX12_untuplet_25 : decode cX12_untuplet 25 = .ok (.aload_n 0, 1) := by decide +kernel
theorem dX12_untuplet_26 : decode cX12_untuplet 26 = .ok (.getfield 48, 3) := by decide +kernel
theorem dX12_untuplet_29 : decode cX12_untuplet 29 = .ok (.iload_n 1, 1) := by decide +kernel
theorem dX12_untuplet_30 : decode cX12_untuplet 30 = .ok (.iconst 0, 1) := by decide +kernel
theorem dX12_untuplet_31 : decode cX12_untuplet 31 = .ok (.bastore, 1) := by decide +kernel
theorem dX12_untuplet_32 : decode cX12_untuplet 32 = .ok (.aload_n 0, 1) := by decide +kernel
theorem dX12_untuplet_33 : decode cX12_untuplet 33 = .ok (.dup, 1) := by decide +kernel
theorem dX12_untuplet_34 : decode cX12_untuplet 34 = .ok (.getfield 202, 3) := by decide +kernel
theorem dX12_untuplet_37 : decode cX12_untuplet 37 = .ok (.iconst 1, 1) := by decide +kernel
theorem dX12_untuplet_38 : decode cX12_untuplet 38 = .ok (.isub, 1) := by decide +kernel
theorem dX12_untuplet_39 : decode cX12_untuplet 39 = .ok (.putfield 202, 3) := by decide +kernel
theorem dX12_untuplet_42 : decode cX12_untuplet 42 = .ok (.iload_n 2, 1) := by decide +kernel
theorem dX12_untuplet_43 : decode cX12_untuplet 43 = .ok (.ireturn, 1) := by decide +kernel
theorem dX12_isInner_0 : decode cX12_isInner 0 = .ok (.iload_n 1, 1) := by decide +kernel
theorem dX12_isInner_1 : decode cX12_isInner 1 = .ok (.iload_n 2, 1) := by decide +kernel
theorem dX12_isInner_2 : decode cX12_isInner 2 = .ok (.if_icmp .eq 36, 3) := by decide +kernel
theorem dX12_isInner_5 : decode cX12_isInner 5 = .ok (.aload_n 0, 1) := by decide +kernel
theorem dX12_isInner_6 : decode cX12_isInner 6 = .ok (.getfield 48, 3) := by decide +kernel
theorem dX12_isInner_9 : decode cX12_isInner 9 = .ok (.iload_n 1, 1) := by decide +kernel
theorem dX12_isInner_10 : decode cX12_isInner 10 = .ok (.baload, 1) := by decide +kernel
theorem dX12_isInner_11 : decode cX12_isInner 11 = .ok (.ifCond .eq 27, 3) := by decide +kernel
theorem dX12_isInner_14 : decode cX12_isInner 14 = .ok (.aload_n 0, 1) := by decide +kernel
theorem dX12_isInner_15 : decode cX12_isInner 15 = .ok (.getfield 48, 3) := by decide +kernel
theorem dX12_isInner_18 : decode cX12_isInner 18 = .ok (.iload_n 2, 1) := by decide +kernel
theorem dX12_isInner_19 : decode cX12_isInner 19 = .ok (.baload, 1) := by decide +kernel
theorem dX12_isInner_20 : decode cX12_isInner 20 = .ok (.ifCond .eq 18, 3) := by decide +kernel
theorem dX12_isInner_23 : decode cX12_isInner 23 = .ok (.aload_n 0, 1) := by decide +kernel
theorem dX12_isInner_24 : decode cX12_isInner 24 = .ok (.getfield 51, 3) := by decide +kernel
theorem dX12_isInner_27 : decode cX12_isInner 27 = .ok (.iload_n 1, 1) := by decide +kernel
theorem dX12_isInner_28 : decode cX12_isInner 28 = .ok (.iaload, 1) := by decide +kernel
theorem dX12_isInner_29 : decode cX12_isInner 29 = .ok (.aload_n 0, 1) := by decide +kernel
theorem dX12_isInner_30 : decode cX12_isInner 30 = .ok (.getfield 51, 3) := by decide +kernel
theorem dX12_isInner_33 : decode cX12_isInner 33 = .ok (.iload_n 2, 1) := by decide +kernel
theorem dX12_isInner_34 : decode cX12_isInner 34 = .ok (.iaload, 1) := by decide +kernel
theorem dX12_isInner_35 : decode cX12_isInner 35 = .ok (.if_icmp .eq 5, 3) := by decide +kernel
theorem dX12_isInner_38 : decode cX12_isInner 38 = .ok (.iconst 0, 1) := by decide +kernel
theorem dX12_isInner_39 : decode cX12_isInner 39 = .ok (.ireturn, 1) := by decide +kernel
theorem dX12_isInner_40 : decode cX12_isInner 40 = .ok (.aload_n 0, 1) := by decide +kernel
theorem dX12_isInner_41 : decode cX12_isInner 41 = .ok (.aload_n 0, 1) := by decide +kernel
theorem dX12_isInner_42 : decode cX12_isInner 42 = .ok (.getfield 54, 3) := by decide +kernel
theorem dX12_isInner_45 : decode cX12_isInner 45 = .ok (.iload_n 2, 1) := by decide +kernel
theorem dX12_isInner_46 : decode cX12_isInner 46 = .ok (.iaload, 1) := by decide +kernel
theorem dX12_isInner_47 : decode cX12_isInner 47 = .ok (.invokevirtual 196, 3) := by decide +kernel
theorem dX12_isInner_50 : decode cX12_isInner 50 = .ok (.aload_n 0, 1) := by decide +kernel
theorem dX12_isInner_51 : decode cX12_isInner 51 = .ok (.aload_n 0, 1) := by decide +kernel
theorem dX12_isInner_52 : decode cX12_isInner 52 = .ok (.getfield 54, 3) := by decide +kernel
theorem dX12_isInner_55 : decode cX12_isInner 55 = .ok (.iload_n 1, 1) := by decide +kernel
theorem dX12_isInner_56 : decode cX12_isInner 56 = .ok (.iaload, 1) := by decide +kernel
theorem dX12_isInner_57 : decode cX12_isInner 57 = .ok (.invokevirtual 196, 3) := by decide +kernel
theorem dX12_isInner_60 : decode cX12_isInner 60 = .ok (.if_icmp .gt 30, 3) := by decide +kernel
theorem dX12_isInner_63 : decode cX12_isInner 63 = .ok (.aload_n 0, 1) := by decide +kernel
theorem dX12_isInner_64 : decode cX12_isInner 64 = .ok (.aload_n 0, 1) := by decide +kernel
theorem dX12_isInner_65 : decode cX12_isInner 65 = .ok (.getfield 57, 3) := by decide +kernel
theorem dX12_isInner_68 : decode cX12_isInner 68 = .ok (.iload_n 1, 1) := by decide +kernel
theorem dX12_isInner_69 : decode cX12_isInner 69 = .ok (.iaload, 1) := by decide +kernel
theorem dX12_isInner_70 : decode cX12_isInner 70 = .ok (.invokevirtual 196, 3) := by decide +kernel
theorem dX12_isInner_73 : decode cX12_isInner 73 = .ok (.aload_n 0, 1) := by decide +kernel
theorem dX12_isInner_74 : decode cX12_isInner 74 = .ok (.aload_n 0, 1) := by decide +kernel
theorem dX12_isInner_75 : decode cX12_isInner 75 = .ok (.getfield 57, 3) := by decide +kernel
theorem dX12_isInner_78 : decode cX12_isInner 78 = .ok (.iload_n 2, 1) := by decide +kernel
theorem dX12_isInner_79 : decode cX12_isInner 79 = .ok (.iaload, 1) := by decide +kernel
theorem dX12_isInner_80 : decode cX12_isInner 80 = .ok (.invokevirtual 196, 3) := by decide +kernel
theorem dX12_isInner_83 : decode cX12_isInner 83 = .ok (.if_icmp .gt 7, 3) := by decide +kernel
theorem dX12_isInner_86 : decode cX12_isInner 86 = .ok (.iconst 1, 1) := by decide +kernel
theorem dX12_isInner_87 : decode cX12_isInner 87 = .ok (.goto 4, 3) := by decide +kernel
theorem dX12_isInner_90 : decode cX12_isInner 90 = .ok (.iconst 0, 1) := by decide +kernel
theorem dX12_isInner_91 : decode cX12_isInner 91 = .ok (.istore_n 3, 1) := by decide +kernel
theorem dX12_isInner_92 : decode cX12_isInner 92 = .ok (.iload_n 3, 1) := by decide +kernel
theorem dX12_isInner_93 : decode cX12_isInner 93 = .ok (.ifCond .eq 25, 3) := by decide +kernel
theorem dX12_isInner_96 : decode cX12_isInner 96 = .ok (.aload_n 0, 1) := by decide +kernel
theorem dX12_isInner_97 : decode cX12_isInner 97 = .ok (.iload_n 1, 1) := by decide +kernel
theorem dX12_isInner_98 : decode cX12_isInner 98 = .ok (.invokevirtual 275, 3) := by decide +kernel
theorem dX12_isInner_101 : decode cX12_isInner 101 = .ok (.aload_n 0, 1) := by decide +kernel
theorem dX12_isInner_102 : decode cX12_isInner 102 = .ok (.iload_n 2, 1) := by decide +kernel
theorem dX12_isInner_103 : decode cX12_isInner 103 = .ok (.invokevirtual 275, 3) := by decide +kernel
theorem dX12_isInner_106 : decode cX12_isInner 106 = .ok (.if_icmp .lt 8, 3) := by decide +kernel
theorem dX12_isInner_109 : decode cX12_isInner 109 = .ok (.iload_n 1, 1) := by decide +kernel
theorem dX12_isInner_110 : decode cX12_isInner 110 = .ok (.iload_n 2, 1) := by decide +kernel
theorem dX12_isInner_111 : decode cX12_isInner 111 = .ok (.if_icmp .le 7, 3) := by decide +kernel
theorem dX12_isInner_114 : decode cX12_isInner 114 = .ok (.iconst 1, 1) := by decide +kernel
theorem dX12_isInner_115 : decode cX12_isInner 115 = .ok (.goto 4, 3) := by decide +kernel
theorem dX12_isInner_118 : decode cX12_isInner 118 = .ok (.iconst 0, 1) := by decide +kernel
theorem dX12_isInner_119 : decode cX12_isInner 119 = .ok (.ireturn, 1) := by decide +kernel
theorem dX12_tupletAt_0 : decode cX12_tupletAt 0 = .ok (.aload_n 0, 1) := by decide +kernel
theorem dX12_tupletAt_1 : decode cX12_tupletAt 1 = .ok (.invokevirtual 144, 3) := by decide +kernel
theorem dX12_tupletAt_4 : decode cX12_tupletAt 4 = .ok (.aload_n 0, 1) := by decide +kernel
theorem dX12_tupletAt_5 : decode cX12_tupletAt 5 = .ok (.iload_n 1, 1) := by decide +kernel
theorem dX12_tupletAt_6 : decode cX12_tupletAt 6 = .ok (.invokevirtual 272, 3) := by decide +kernel
theorem dX12_tupletAt_9 : decode cX12_tupletAt 9 = .ok (.ifCond .eq 15, 3) := by decide +kernel
theorem dX12_tupletAt_12 : decode cX12_tupletAt 12 = .ok (.iload_n 2, 1) := by decide +kernel
theorem dX12_tupletAt_13 : decode cX12_tupletAt 13 = .ok (.i2l, 1) := by decide +kernel
theorem dX12_tupletAt_14 : decode cX12_tupletAt 14 = .ok (.lconst 0, 1) := by decide +kernel
theorem dX12_tupletAt_15 : decode cX12_tupletAt 15 = .ok (.ldc2_w 278, 3) := by decide +kernel
theorem dX12_tupletAt_18 : decode cX12_tupletAt 18 = .ok (.invokestatic 137, 3) := by decide +kernel
theorem dX12_tupletAt_21 : decode cX12_tupletAt 21 = .ok (.ifCond .ne 10, 3) := by decide +kernel
theorem dX12_tupletAt_24 : decode cX12_tupletAt 24 = .ok (.aload_n 0, 1) := by decide +kernel
theorem dX12_tupletAt_25 : decode cX12_tupletAt 25 = .ok (.bipush (-2), 2) := by decide +kernel
theorem dX12_tupletAt_27 : decode cX12_tupletAt 27 = .ok (.invokevirtual 130, 3) := by decide +kernel
theorem dX12_tupletAt_30 : decode cX12_tupletAt 30 = .ok (.ireturn, 1) := by decide +kernel
theorem dX12_tupletAt_31 : decode cX12_tupletAt 31 = .ok (.iload_n 2, 1) := by decide +kernel
theorem dX12_tupletAt_32 : decode cX12_tupletAt 32 = .ok (.tableswitch 85 0 5 #[40, 47, 58, 64, 71, 78], 40) := by decide +kernel
theorem dX12_tupletAt_72 : decode cX12_tupletAt 72 = .ok (.aload_n 0, 1) := by decide +kernel
theorem dX12_tupletAt_73 : decode cX12_tupletAt 73 = .ok (.getfield 51, 3) := by decide +kernel
theorem dX12_tupletAt_76 : decode cX12_tupletAt 76 = .ok (.iload_n 1, 1) := by decide +kernel
theorem dX12_tupletAt_77 : decode cX12_tupletAt 77 = .ok (.iaload, 1) := by decide +kernel
theorem dX12_tupletAt_78 : decode cX12_tupletAt 78 = .ok (.ireturn, 1) := by decide +kernel
theorem dX12_tupletAt_79 : decode cX12_tupletAt 79 = .ok (.aload_n 0, 1) := by decide +kernel
theorem dX12_tupletAt_80 : decode cX12_tupletAt 80 = .ok (.aload_n 0, 1) := by decide +kernel
theorem dX12_tupletAt_81 : decode cX12_tupletAt 81 = .ok (.getfield 54, 3) := by decide +kernel
theorem dX12_tupletAt_84 : decode cX12_tupletAt 84 = .ok (.iload_n 1, 1) := by decide +kernel
theorem dX12_tupletAt_85 : decode cX12_tupletAt 85 = .ok (.iaload, 1) := by decide +kernel
theorem dX12_tupletAt_86 : decode cX12_tupletAt 86 = .ok (.invokevirtual 196, 3) := by decide +kernel
theorem dX12_tupletAt_89 : decode cX12_tupletAt 89 = .ok (.ireturn, 1) := by decide +kernel
theorem dX12_tupletAt_90 : decode cX12_tupletAt 90 = .ok (.aload_n 0, 1) := by decide +kernel
theorem dX12_tupletAt_91 : decode cX12_tupletAt 91 = .ok (.iload_n 1, 1) := by decide +kernel
theorem dX12_tupletAt_92 : decode cX12_tupletAt 92 = .ok (.invokevirtual 275, 3) := by decide +kernel
theorem dX12_tupletAt_95 : decode cX12_tupletAt 95 = .ok (.ireturn, 1) := by decide +kernel
theorem dX12_tupletAt_96 : decode cX12_tupletAt 96 = .ok (.aload_n 0, 1) := by decide +kernel
theorem dX12_tupletAt_97 : decode cX12_tupletAt 97 = .ok (.getfield 60, 3) := by decide +kernel
theorem dX12_tupletAt_100 : decode cX12_tupletAt 100 = .ok (.iload_n 1, 1) := by decide +kernel
theorem dX12_tupletAt_101 : decode cX12_tupletAt 101 = .ok (.iaload, 1) := by decide +kernel
theorem dX12_tupletAt_102 : decode cX12_tupletAt 102 = .ok (.ireturn, 1) := by decide +kernel
theorem dX12_tupletAt_103 : decode cX12_tupletAt 103 = .ok (.aload_n 0, 1) := by decide +kernel
theorem dX12_tupletAt_104 : decode cX12_tupletAt 104 = .ok (.getfield 63, 3) := by decide +kernel
theorem dX12_tupletAt_107 : decode cX12_tupletAt 107 = .ok (.iload_n 1, 1) := by decide +kernel
theorem dX12_tupletAt_108 : decode cX12_tupletAt 108 = .ok (.iaload, 1) := by decide +kernel
theorem dX12_tupletAt_109 : decode cX12_tupletAt 109 = .ok (.ireturn, 1) := by decide +kernel
theorem dX12_tupletAt_110 : decode cX12_tupletAt 110 = .ok (.aload_n 0, 1) := by decide +kernel
theorem dX12_tupletAt_111 : decode cX12_tupletAt 111 = .ok (.getfield 66, 3) := by decide +kernel
theorem dX12_tupletAt_114 : decode cX12_tupletAt 114 = .ok (.iload_n 1, 1) := by decide +kernel
theorem dX12_tupletAt_115 : decode cX12_tupletAt 115 = .ok (.iaload, 1) := by decide +kernel
theorem dX12_tupletAt_116 : decode cX12_tupletAt 116 = .ok (.ireturn, 1) := by decide +kernel
theorem dX12_tupletAt_117 : decode cX12_tupletAt 117 = .ok (.iconst 0, 1) := by decide +kernel
theorem dX12_tupletAt_118 : decode cX12_tupletAt 118 = .ok (.istore_n 3, 1) := by decide +kernel
theorem dX12_tupletAt_119 : decode cX12_tupletAt 119 = .ok (.iconst 0, 1) := by decide +kernel
theorem dX12_tupletAt_120 : decode cX12_tupletAt 120 = .ok (.istore 4, 2) := by decide +kernel
theorem dX12_tupletAt_122 : decode cX12_tupletAt 122 = .ok (.iload 4, 2) := by decide +kernel
theorem dX12_tupletAt_124 : decode cX12_tupletAt 124 = .ok (.aload_n 0, 1) := by decide +kernel
theorem dX12_tupletAt_125 : decode cX12_tupletAt 125 = .ok (.getfield 199, 3) := by decide +kernel
theorem dX12_tupletAt_128 : decode cX12_tupletAt 128 = .ok (.if_icmp .ge 27, 3) := by decide +kernel
theorem dX12_tupletAt_131 : decode cX12_tupletAt 131 = .ok (.iload_n 3, 1) := by decide +kernel
theorem dX12_tupletAt_132 : decode cX12_tupletAt 132 = .ok (.aload_n 0, 1) := by decide +kernel
theorem dX12_tupletAt_133 : decode cX12_tupletAt 133 = .ok (.iload_n 1, 1) := by decide +kernel
theorem dX12_tupletAt_134 : decode cX12_tupletAt 134 = .ok (.iload 4, 2) := by decide +kernel
theorem dX12_tupletAt_136 : decode cX12_tupletAt 136 = .ok (.invokevirtual 280, 3) := by decide +kernel
theorem dX12_tupletAt_139 : decode cX12_tupletAt 139 = .ok (.ifCond .eq 7, 3) := by decide +kernel
theorem dX12_tupletAt_142 : decode cX12_tupletAt 142 = .ok (.iconst 1, 1) := by decide +kernel
theorem dX12_tupletAt_143 : decode cX12_tupletAt 143 = .ok (.goto 4, 3) := by decide +kernel
theorem dX12_tupletAt_146 : decode cX12_tupletAt 146 = .ok (.iconst 0, 1) := by decide +kernel
theorem dX12_tupletAt_147 : decode cX12_tupletAt 147 = .ok (.iadd, 1) := by decide +kernel
theorem dX12_tupletAt_148 : decode cX12_tupletAt 148 = .ok (.istore_n 3, 1) := by decide +kernel
theorem dX12_tupletAt_149 : decode cX12_tupletAt 149 = .ok (.iinc 4 1, 3) := by decide +kernel
theorem dX12_tupletAt_152 : decode cX12_tupletAt 152 = .ok (.goto (-30), 3) := by decide +kernel
theorem dX12_tupletAt_155 : decode cX12_tupletAt 155 = .ok (.iload_n 3, 1) := by decide +kernel
theorem dX12_tupletAt_156 : decode cX12_tupletAt 156 = .ok (.ireturn, 1) := by decide +kernel
theorem dX12_hasLine_0 : decode cX12_hasLine 0 = .ok (.iload_n 1, 1) := by decide +kernel
theorem dX12_hasLine_1 : decode cX12_hasLine 1 = .ok (.i2l, 1) := by decide +kernel
theorem dX12_hasLine_2 : decode cX12_hasLine 2 = .ok (.lconst 0, 1) := by decide +kernel
theorem dX12_hasLine_3 : decode cX12_hasLine 3 = .ok (.aload_n 0, 1) := by decide +kernel
theorem dX12_hasLine_4 : decode cX12_hasLine 4 = .ok (.getfield 205, 3) := by decide +kernel
theorem dX12_hasLine_7 : decode cX12_hasLine 7 = .ok (.iconst 1, 1) := by decide +kernel
theorem dX12_hasLine_8 : decode cX12_hasLine 8 = .ok (.isub, 1) := by decide +kernel
theorem dX12_hasLine_9 : decode cX12_hasLine 9 = .ok (.i2l, 1) := by decide +kernel
theorem dX12_hasLine_10 : decode cX12_hasLine 10 = .ok (.invokestatic 137, 3) := by decide +kernel
theorem dX12_hasLine_13 : decode cX12_hasLine 13 = .ok (.ifCond .eq 16, 3) := by decide +kernel
theorem dX12_hasLine_16 : decode cX12_hasLine 16 = .ok (.aload_n 0, 1) := by decide +kernel
theorem dX12_hasLine_17 : decode cX12_hasLine 17 = .ok (.getfield 69, 3) := by decide +kernel
theorem dX12_hasLine_20 : decode cX12_hasLine 20 = .ok (.iload_n 1, 1) := by decide +kernel
theorem dX12_hasLine_21 : decode cX12_hasLine 21 = .ok (.baload, 1) := by decide +kernel
theorem dX12_hasLine_22 : decode cX12_hasLine 22 = .ok (.ifCond .eq 7, 3) := by decide +kernel
theorem dX12_hasLine_25 : decode cX12_hasLine 25 = .ok (.iconst 1, 1) := by decide +kernel
theorem dX12_hasLine_26 : decode cX12_hasLine 26 = .ok (.goto 4, 3) := by decide +kernel
theorem dX12_hasLine_29 : decode cX12_hasLine 29 = .ok (.iconst 0, 1) := by decide +kernel
theorem dX12_hasLine_30 : decode cX12_hasLine 30 = .ok (.ireturn, 1) := by decide +kernel
theorem dX12_line_0 : decode cX12_line 0 = .ok (.aload_n 0, 1) := by decide +kernel
theorem dX12_line_1 : decode cX12_line 1 = .ok (.invokevirtual 144, 3) := by decide +kernel
theorem dX12_line_4 : decode cX12_line 4 = .ok (.iload_n 1, 1) := by decide +kernel
theorem dX12_line_5 : decode cX12_line 5 = .ok (.i2l, 1) := by decide +kernel
theorem dX12_line_6 : decode cX12_line 6 = .ok (.lconst 0, 1) := by decide +kernel
theorem dX12_line_7 : decode cX12_line 7 = .ok (.ldc2_w 231, 3) := by decide +kernel
theorem dX12_line_10 : decode cX12_line 10 = .ok (.invokestatic 137, 3) := by decide +kernel
theorem dX12_line_13 : decode cX12_line 13 = .ok (.ifCond .eq 24, 3) := by decide +kernel
theorem dX12_line_16 : decode cX12_line 16 = .ok (.aload_n 0, 1) := by decide +kernel
theorem dX12_line_17 : decode cX12_line 17 = .ok (.iload_n 2, 1) := by decide +kernel
theorem dX12_line_18 : decode cX12_line 18 = .ok (.invokevirtual 193, 3) := by decide +kernel
theorem dX12_line_21 : decode cX12_line 21 = .ok (.ifCond .eq 16, 3) := by decide +kernel
theorem dX12_line_24 : decode cX12_line 24 = .ok (.iload_n 3, 1) := by decide +kernel
theorem dX12_line_25 : decode cX12_line 25 = .ok (.iconst (-1), 1) := by decide +kernel
theorem dX12_line_26 : decode cX12_line 26 = .ok (.if_icmp .eq 18, 3) := by decide +kernel
theorem dX12_line_29 : decode cX12_line 29 = .ok (.aload_n 0, 1) := by decide +kernel
theorem dX12_line_30 : decode cX12_line 30 = .ok (.iload_n 3, 1) := by decide +kernel
theorem dX12_line_31 : decode cX12_line 31 = .ok (.invokevirtual 193, 3) := by decide +kernel
theorem dX12_line_34 : decode cX12_line 34 = .ok (.ifCond .ne 10, 3) := by decide +kernel
theorem dX12_line_37 : decode cX12_line 37 = .ok (.aload_n 0, 1) := by decide +kernel
theorem dX12_line_38 : decode cX12_line 38 = .ok (.bipush (-2), 2) := by decide +kernel
theorem dX12_line_40 : decode cX12_line 40 = .ok (.invokevirtual 130, 3) := by decide +kernel
theorem dX12_line_43 : decode cX12_line 43 = .ok (.ireturn, 1) := by decide +kernel
theorem dX12_line_44 : decode cX12_line 44 = .ok (.aload_n 0, 1) := by decide +kernel
theorem dX12_line_45 : decode cX12_line 45 = .ok (.getfield 205, 3) := by decide +kernel
theorem dX12_line_48 : decode cX12_line 48 = .ok (.bipush 30, 2) := by decide +kernel
theorem dX12_line_50 : decode cX12_line 50 = .ok (.if_icmp .ne 10, 3) := by decide +kernel
theorem dX12_line_53 : decode cX12_line 53 = .ok (.aload_n 0, 1) := by decide +kernel
theorem dX12_line_54 : decode cX12_line 54 = .ok (.bipush (-4), 2) := by decide +kernel
theorem dX12_line_56 : decode cX12_line 56 = .ok (.invokevirtual 130, 3) := by decide +kernel
theorem dX12_line_59 : decode cX12_line 59 = .ok (.ireturn, 1) := by decide +kernel
theorem dX12_line_60 : decode cX12_line 60 = .ok (.aload_n 0, 1) := by decide +kernel
theorem dX12_line_61 : decode cX12_line 61 = .ok (.getfield 69, 3) := by decide +kernel
theorem dX12_line_64 : decode cX12_line 64 = .ok (.aload_n 0, 1) := by decide +kernel
theorem dX12_line_65 : decode cX12_line 65 = .ok (.getfield 205, 3) := by decide +kernel
theorem dX12_line_68 : decode cX12_line 68 = .ok (.iconst 1, 1) := by decide +kernel
theorem dX12_line_69 : decode cX12_line 69 = .ok (.bastore, 1) := by decide +kernel
theorem dX12_line_70 : decode cX12_line 70 = .ok (.aload_n 0, 1) := by decide +kernel
theorem dX12_line_71 : decode cX12_line 71 = .ok (.getfield 72, 3) := by decide +kernel
theorem dX12_line_74 : decode cX12_line 74 = .ok (.aload_n 0, 1) := by decide +kernel
theorem dX12_line_75 : decode cX12_line 75 = .ok (.getfield 205, 3) := by decide +kernel
theorem dX12_line_78 : decode cX12_line 78 = .ok (.iload_n 1, 1) := by decide +kernel
theorem dX12_line_79 : decode cX12_line 79 = .ok (.iastore, 1) := by decide +kernel
theorem dX12_line_80 : decode cX12_line 80 = .ok (.aload_n 0, 1) := by decide +kernel
theorem dX12_line_81 : decode cX12_line 81 = .ok (.getfield 75, 3) := by decide +kernel
theorem dX12_line_84 : decode cX12_line 84 = .ok (.aload_n 0, 1) := by decide +kernel
theorem dX12_line_85 : decode cX12_line 85 = .ok (.getfield 205, 3) := by decide +kernel
theorem dX12_line_88 : decode cX12_line 88 = .ok (.iload_n 2, 1) := by decide +kernel
theorem dX12_line_89 : decode cX12_line 89 = .ok (.iastore, 1) := by decide +kernel
theorem dX12_line_90 : decode cX12_line 90 = .ok (.aload_n 0, 1) := by decide +kernel
theorem dX12_line_91 : decode cX12_line 91 = .ok (.getfield 78, 3) := by decide +kernel
theorem dX12_line_94 : decode cX12_line 94 = .ok (.aload_n 0, 1) := by decide +kernel
theorem dX12_line_95 : decode cX12_line 95 = .ok (.getfield 205, 3) := by decide +kernel
theorem dX12_line_98 : decode cX12_line 98 = .ok (.iload_n 3, 1) := by decide +kernel
theorem dX12_line_99 : decode cX12_line 99 = .ok (.iastore, 1) := by decide +kernel
theorem dX12_line_100 : decode cX12_line 100 = .ok (.aload_n 0, 1) := by decide +kernel
theorem dX12_line_101 : decode cX12_line 101 = .ok (.dup, 1) := by decide +kernel
theorem dX12_line_102 : decode cX12_line 102 = .ok (.getfield 205, 3) := by decide +kernel
theorem dX12_line_105 : decode cX12_line 105 = .ok (.iconst 1, 1) := by decide +kernel
theorem dX12_line_106 : decode cX12_line 106 = .ok (.iadd, 1) := by decide +kernel
theorem dX12_line_107 : decode cX12_line 107 = .ok (.putfield 205, 3) := by decide +kernel
theorem dX12_line_110 : decode cX12_line 110 = .ok (.aload_n 0, 1) := by decide +kernel
theorem dX12_line_111 : decode cX12_line 111 = .ok (.dup, 1) := by decide +kernel
theorem dX12_line_112 : decode cX12_line 112 = .ok (.getfield 208, 3) := by decide +kernel
theorem dX12_line_115 : decode cX12_line 115 = .ok (.iconst 1, 1) := by decide +kernel
theorem dX12_line_116 : decode cX12_line 116 = .ok (.iadd, 1) := by decide +kernel
theorem dX12_line_117 : decode cX12_line 117 = .ok (.putfield 208, 3) := by decide +kernel
theorem dX12_line_120 : decode cX12_line 120 = .ok (.aload_n 0, 1) := by decide +kernel
theorem dX12_line_121 : decode cX12_line 121 = .ok (.getfield 205, 3) := by decide +kernel
theorem dX12_line_124 : decode cX12_line 124 = .ok (.iconst 1, 1) := by decide +kernel
theorem dX12_line_125 : decode cX12_line 125 = .ok (.isub, 1) := by decide +kernel
theorem dX12_line_126 : decode cX12_line 126 = .ok (.ireturn, 1) := by decide +kernel
theorem dX12_end_0 : decode cX12_end 0 = .ok (.aload_n 0, 1) := by decide +kernel
theorem dX12_end_1 : decode cX12_end 1 = .ok (.invokevirtual 144, 3) := by decide +kernel
theorem dX12_end_4 : decode cX12_end 4 = .ok (.aload_n 0, 1) := by decide +kernel
theorem dX12_end_5 : decode cX12_end 5 = .ok (.iload_n 1, 1) := by decide +kernel
theorem dX12_end_6 : decode cX12_end 6 = .ok (.invokevirtual 283, 3) := by decide +kernel
theorem dX12_end_9 : decode cX12_end 9 = .ok (.ifCond .eq 16, 3) := by decide +kernel
theorem dX12_end_12 : decode cX12_end 12 = .ok (.iload_n 2, 1) := by decide +kernel
theorem dX12_end_13 : decode cX12_end 13 = .ok (.iconst (-1), 1) := by decide +kernel
theorem dX12_end_14 : decode cX12_end 14 = .ok (.if_icmp .eq 18, 3) := by decide +kernel
theorem dX12_end_17 : decode cX12_end 17 = .ok (.aload_n 0, 1) := by decide +kernel
theorem dX12_end_18 : decode cX12_end 18 = .ok (.iload_n 2, 1) := by decide +kernel
theorem dX12_end_19 : decode cX12_end 19 = .ok (.invokevirtual 193, 3) := by decide +kernel
theorem dX12_end_22 : decode cX12_end 22 = .ok (.ifCond .ne 10, 3) := by decide +kernel
theorem dX12_end_25 : decode cX12_end 25 = .ok (.aload_n 0, 1) := by decide +kernel
theorem dX12_end_26 : decode cX12_end 26 = .ok (.bipush (-2), 2) := by decide +kernel
theorem dX12_end_28 : decode cX12_end 28 = .ok (.invokevirtual 130, 3) := by decide +kernel
theorem dX12_end_31 : decode cX12_end 31 = .ok (.ireturn, 1) := by decide +kernel
theorem dX12_end_32 : decode cX12_end 32 = .ok (.aload_n 0, 1) := by decide +kernel
theorem dX12_end_33 : decode cX12_end 33 = .ok (.getfield 78, 3) := by decide +kernel
theorem dX12_end_36 : decode cX12_end 36 = .ok (.iload_n 1, 1) := by decide +kernel
theorem dX12_end_37 : decode cX12_end 37 = .ok (.iload_n 2, 1) := by decide +kernel
theorem dX12_end_38 : decode cX12_end 38 = .ok (.iastore, 1) := by decide +kernel
theorem dX12_end_39 : decode cX12_end 39 = .ok (.iconst 1, 1) := by decide +kernel
theorem dX12_end_40 : decode cX12_end 40 = .ok (.ireturn, 1) := by decide +kernel
theorem dX12_lineAt_0 : decode cX12_lineAt 0 = .ok (.aload_n 0, 1) := by decide +kernel
theorem dX12_lineAt_1 : decode cX12_lineAt 1 = .ok (.invokevirtual 144, 3) := by decide +kernel
theorem dX12_lineAt_4 : decode cX12_lineAt 4 = .ok (.aload_n 0, 1) := by decide +kernel
theorem dX12_lineAt_5 : decode cX12_lineAt 5 = .ok (.iload_n 1, 1) := by decide +kernel
theorem dX12_lineAt_6 : decode cX12_lineAt 6 = .ok (.invokevirtual 283, 3) := by decide +kernel
theorem dX12_lineAt_9 : decode cX12_lineAt 9 = .ok (.ifCond .eq 15, 3) := by decide +kernel
theorem dX12_lineAt_12 : decode cX12_lineAt 12 = .ok (.iload_n 2, 1) := by decide +kernel
theorem dX12_lineAt_13 : decode cX12_lineAt 13 = .ok (.i2l, 1) := by decide +kernel
theorem dX12_lineAt_14 : decode cX12_lineAt 14 = .ok (.lconst 0, 1) := by decide +kernel
theorem dX12_lineAt_15 : decode cX12_lineAt 15 = .ok (.ldc2_w 170, 3) := by decide +kernel
theorem dX12_lineAt_18 : decode cX12_lineAt 18 = .ok (.invokestatic 137, 3) := by decide +kernel
theorem dX12_lineAt_21 : decode cX12_lineAt 21 = .ok (.ifCond .ne 10, 3) := by decide +kernel
theorem dX12_lineAt_24 : decode cX12_lineAt 24 = .ok (.aload_n 0, 1) := by decide +kernel
theorem dX12_lineAt_25 : decode cX12_lineAt 25 = .ok (.bipush (-2), 2) := by decide +kernel
theorem dX12_lineAt_27 : decode cX12_lineAt 27 = .ok (.invokevirtual 130, 3) := by decide +kernel
theorem dX12_lineAt_30 : decode cX12_lineAt 30 = .ok (.ireturn, 1) := by decide +kernel
theorem dX12_lineAt_31 : decode cX12_lineAt 31 = .ok (.iload_n 2, 1) := by decide +kernel
theorem dX12_lineAt_32 : decode cX12_lineAt 32 = .ok (.ifCond .ne 12, 3) := by decide +kernel
theorem dX12_lineAt_35 : decode cX12_lineAt 35 = .ok (.aload_n 0, 1) := by decide +kernel
theorem dX12_lineAt_36 : decode cX12_lineAt 36 = .ok (.getfield 72, 3) := by decide +kernel
theorem dX12_lineAt_39 : decode cX12_lineAt 39 = .ok (.iload_n 1, 1) := by decide +kernel
theorem dX12_lineAt_40 : decode cX12_lineAt 40 = .ok (.iaload, 1) := by decide +kernel
theorem dX12_lineAt_41 : decode cX12_lineAt 41 = .ok (.goto 23, 3) := by decide +kernel
theorem dX12_lineAt_44 : decode cX12_lineAt 44 = .ok (.iload_n 2, 1) := by decide +kernel
theorem dX12_lineAt_45 : decode cX12_lineAt 45 = .ok (.iconst 1, 1) := by decide +kernel
theorem dX12_lineAt_46 : decode cX12_lineAt 46 = .ok (.if_icmp .ne 12, 3) := by decide +kernel
theorem dX12_lineAt_49 : decode cX12_lineAt 49 = .ok (.aload_n 0, 1) := by decide +kernel
theorem dX12_lineAt_50 : decode cX12_lineAt 50 = .ok (.getfield 75, 3) := by decide +kernel
theorem dX12_lineAt_53 : decode cX12_lineAt 53 = .ok (.iload_n 1, 1) := by decide +kernel
theorem dX12_lineAt_54 : decode cX12_lineAt 54 = .ok (.iaload, 1) := by decide +kernel
theorem dX12_lineAt_55 : decode cX12_lineAt 55 = .ok (.goto 9, 3) := by decide +kernel
theorem dX12_lineAt_58 : decode cX12_lineAt 58 = .ok (.aload_n 0, 1) := by decide +kernel
theorem dX12_lineAt_59 : decode cX12_lineAt 59 = .ok (.getfield 78, 3) := by decide +kernel
theorem dX12_lineAt_62 : decode cX12_lineAt 62 = .ok (.iload_n 1, 1) := by decide +kernel
theorem dX12_lineAt_63 : decode cX12_lineAt 63 = .ok (.iaload, 1) := by decide +kernel
theorem dX12_lineAt_64 : decode cX12_lineAt 64 = .ok (.ireturn, 1) := by decide +kernel
theorem dX12_walk_0 : decode cX12_walk 0 = .ok (.aload_n 0, 1) := by decide +kernel
theorem dX12_walk_1 : decode cX12_walk 1 = .ok (.invokevirtual 144, 3) := by decide +kernel
theorem dX12_walk_4 : decode cX12_walk 4 = .ok (.aload_n 0, 1) := by decide +kernel
theorem dX12_walk_5 : decode cX12_walk 5 = .ok (.iconst 0, 1) := by decide +kernel
theorem dX12_walk_6 : decode cX12_walk 6 = .ok (.putfield 286, 3) := by decide +kernel
theorem dX12_walk_9 : decode cX12_walk 9 = .ok (.iconst 0, 1) := by decide +kernel
theorem dX12_walk_10 : decode cX12_walk 10 = .ok (.istore_n 1, 1) := by decide +kernel
theorem dX12_walk_11 : decode cX12_walk 11 = .ok (.iload_n 1, 1) := by decide +kernel
theorem dX12_walk_12 : decode cX12_walk 12 = .ok (.iconst 3, 1) := by decide +kernel
theorem dX12_walk_13 : decode cX12_walk 13 = .ok (.aload_n 0, 1) := by decide +kernel
theorem dX12_walk_14 : decode cX12_walk 14 = .ok (.getfield 134, 3) := by decide +kernel
theorem dX12_walk_17 : decode cX12_walk 17 = .ok (.imul, 1) := by decide +kernel
theorem dX12_walk_18 : decode cX12_walk 18 = .ok (.if_icmp .ge 144, 3) := by decide +kernel
theorem dX12_walk_21 : decode cX12_walk 21 = .ok (.lconst 0, 1) := by decide +kernel
theorem dX12_walk_22 : decode cX12_walk 22 = .ok (.lstore_n 2, 1) := by decide +kernel
theorem dX12_walk_23 : decode cX12_walk 23 = .ok (.iconst 0, 1) := by decide +kernel
theorem dX12_walk_24 : decode cX12_walk 24 = .ok (.istore 4, 2) := by decide +kernel
theorem dX12_walk_26 : decode cX12_walk 26 = .ok (.iload 4, 2) := by decide +kernel
theorem dX12_walk_28 : decode cX12_walk 28 = .ok (.aload_n 0, 1) := by decide +kernel
theorem dX12_walk_29 : decode cX12_walk 29 = .ok (.getfield 45, 3) := by decide +kernel
theorem dX12_walk_32 : decode cX12_walk 32 = .ok (.iload_n 1, 1) := by decide +kernel
theorem dX12_walk_33 : decode cX12_walk 33 = .ok (.iaload, 1) := by decide +kernel
theorem dX12_walk_34 : decode cX12_walk 34 = .ok (.if_icmp .ge 122, 3) := by decide +kernel
theorem dX12_walk_37 : decode cX12_walk 37 = .ok (.aload_n 0, 1) := by decide +kernel
theorem dX12_walk_38 : decode cX12_walk 38 = .ok (.getfield 42, 3) := by decide +kernel
theorem dX12_walk_41 : decode cX12_walk 41 = .ok (.bipush 40, 2) := by decide +kernel
theorem dX12_walk_43 : decode cX12_walk 43 = .ok (.iload_n 1, 1) := by decide +kernel
theorem dX12_walk_44 : decode cX12_walk 44 = .ok (.imul, 1) := by decide +kernel
theorem dX12_walk_45 : decode cX12_walk 45 = .ok (.iload 4, 2) := by decide +kernel
theorem dX12_walk_47 : decode cX12_walk 47 = .ok (.iadd, 1) := by decide +kernel
theorem dX12_walk_48 : decode cX12_walk 48 = .ok (.iaload, 1) := by decide +kernel
theorem dX12_walk_49 : decode cX12_walk 49 = .ok (.istore 5, 2) := by decide +kernel
theorem dX12_walk_51 : decode cX12_walk 51 = .ok (.aload_n 0, 1) := by decide +kernel
theorem dX12_walk_52 : decode cX12_walk 52 = .ok (.getfield 286, 3) := by decide +kernel
theorem dX12_walk_55 : decode cX12_walk 55 = .ok (.istore 6, 2) := by decide +kernel
theorem dX12_walk_57 : decode cX12_walk 57 = .ok (.iload 6, 2) := by decide +kernel
theorem dX12_walk_59 : decode cX12_walk 59 = .ok (.ifCond .le 55, 3) := by decide +kernel
theorem dX12_walk_62 : decode cX12_walk 62 = .ok (.aload_n 0, 1) := by decide +kernel
theorem dX12_walk_63 : decode cX12_walk 63 = .ok (.getfield 120, 3) := by decide +kernel
theorem dX12_walk_66 : decode cX12_walk 66 = .ok (.iload 6, 2) := by decide +kernel
theorem dX12_walk_68 : decode cX12_walk 68 = .ok (.iconst 1, 1) := by decide +kernel
theorem dX12_walk_69 : decode cX12_walk 69 = .ok (.isub, 1) := by decide +kernel
theorem dX12_walk_70 : decode cX12_walk 70 = .ok (.laload, 1) := by decide +kernel
theorem dX12_walk_71 : decode cX12_walk 71 = .ok (.lload_n 2, 1) := by decide +kernel
theorem dX12_walk_72 : decode cX12_walk 72 = .ok (.lcmp, 1) := by decide +kernel
theorem dX12_walk_73 : decode cX12_walk 73 = .ok (.ifCond .le 41, 3) := by decide +kernel
theorem dX12_walk_76 : decode cX12_walk 76 = .ok (.aload_n 0, 1) := by decide +kernel
theorem dX12_walk_77 : decode cX12_walk 77 = .ok (.getfield 120, 3) := by decide +kernel
theorem dX12_walk_80 : decode cX12_walk 80 = .ok (.iload 6, 2) := by decide +kernel
theorem dX12_walk_82 : decode cX12_walk 82 = .ok (.aload_n 0, 1) := by decide +kernel
theorem dX12_walk_83 : decode cX12_walk 83 = .ok (.getfield 120, 3) := by decide +kernel
theorem dX12_walk_86 : decode cX12_walk 86 = .ok (.iload 6, 2) := by decide +kernel
theorem dX12_walk_88 : decode cX12_walk 88 = .ok (.iconst 1, 1) := by decide +kernel
theorem dX12_walk_89 : decode cX12_walk 89 = .ok (.isub, 1) := by decide +kernel
theorem dX12_walk_90 : decode cX12_walk 90 = .ok (.laload, 1) := by decide +kernel
theorem dX12_walk_91 : decode cX12_walk 91 = .ok (.lastore, 1) := by decide +kernel
theorem dX12_walk_92 : decode cX12_walk 92 = .ok (.aload_n 0, 1) := by decide +kernel
theorem dX12_walk_93 : decode cX12_walk 93 = .ok (.getfield 81, 3) := by decide +kernel
theorem dX12_walk_96 : decode cX12_walk 96 = .ok (.iload 6, 2) := by decide +kernel
theorem dX12_walk_98 : decode cX12_walk 98 = .ok (.aload_n 0, 1) := by decide +kernel
theorem dX12_walk_99 : decode cX12_walk 99 = .ok (.getfield 81, 3) := by decide +kernel
theorem dX12_walk_102 : decode cX12_walk 102 = .ok (.iload 6, 2) := by decide +kernel
theorem dX12_walk_104 : decode cX12_walk 104 = .ok (.iconst 1, 1) := by decide +kernel
theorem dX12_walk_105 : decode cX12_walk 105 = .ok (.isub, 1) := by decide +kernel
theorem dX12_walk_106 : decode cX12_walk 106 = .ok (.iaload, 1) := by decide +kernel
theorem dX12_walk_107 : decode cX12_walk 107 = .ok (.iastore, 1) := by decide +kernel
theorem dX12_walk_108 : decode cX12_walk 108 = .ok (.iinc 6 (-1), 3) := by decide +kernel
theorem dX12_walk_111 : decode cX12_walk 111 = .ok (.goto (-54), 3) := by decide +kernel
theorem dX12_walk_114 : decode cX12_walk 114 = .ok (.aload_n 0, 1) := by decide +kernel
theorem dX12_walk_115 : decode cX12_walk 115 = .ok (.getfield 120, 3) := by decide +kernel
theorem dX12_walk_118 : decode cX12_walk 118 = .ok (.iload 6, 2) := by decide +kernel
theorem dX12_walk_120 : decode cX12_walk 120 = .ok (.lload_n 2, 1) := by decide +kernel
theorem dX12_walk_121 : decode cX12_walk 121 = .ok (.lastore, 1) := by decide +kernel
theorem dX12_walk_122 : decode cX12_walk 122 = .ok (.aload_n 0, 1) := by decide +kernel
theorem dX12_walk_123 : decode cX12_walk 123 = .ok (.getfield 81, 3) := by decide +kernel
theorem dX12_walk_126 : decode cX12_walk 126 = .ok (.iload 6, 2) := by decide +kernel
theorem dX12_walk_128 : decode cX12_walk 128 = .ok (.iload 5, 2) := by decide +kernel
theorem dX12_walk_130 : decode cX12_walk 130 = .ok (.iastore, 1) := by decide +kernel
theorem dX12_walk_131 : decode cX12_walk 131 = .ok (.aload_n 0, 1) := by decide +kernel
theorem dX12_walk_132 : decode cX12_walk 132 = .ok (.dup, 1) := by decide +kernel
theorem dX12_walk_133 : decode cX12_walk 133 = .ok (.getfield 286, 3) := by decide +kernel
theorem dX12_walk_136 : decode cX12_walk 136 = .ok (.iconst 1, 1) := by decide +kernel
theorem dX12_walk_137 : decode cX12_walk 137 = .ok (.iadd, 1) := by decide +kernel
theorem dX12_walk_138 : decode cX12_walk 138 = .ok (.putfield 286, 3) := by decide +kernel
theorem dX12_walk_141 : decode cX12_walk 141 = .ok (.lload_n 2, 1) := by decide +kernel
theorem dX12_walk_142 : decode cX12_walk 142 = .ok (.aload_n 0, 1) := by decide +kernel
theorem dX12_walk_143 : decode cX12_walk 143 = .ok (.iload 5, 2) := by decide +kernel
theorem dX12_walk_145 : decode cX12_walk 145 = .ok (.invokevirtual 243, 3) := by decide +kernel
theorem dX12_walk_148 : decode cX12_walk 148 = .ok (.ladd, 1) := by decide +kernel
theorem dX12_walk_149 : decode cX12_walk 149 = .ok (.lstore_n 2, 1) := by decide +kernel
theorem dX12_walk_150 : decode cX12_walk 150 = .ok (.iinc 4 1, 3) := by decide +kernel
theorem dX12_walk_153 : decode cX12_walk 153 = .ok (.goto (-127), 3) := by decide +kernel
theorem dX12_walk_156 : decode cX12_walk 156 = .ok (.iinc 1 1, 3) := by decide +kernel
theorem dX12_walk_159 : decode cX12_walk 159 = .ok (.goto (-148), 3) := by decide +kernel
theorem dX12_walk_162 : decode cX12_walk 162 = .ok (.aload_n 0, 1) := by decide +kernel
theorem dX12_walk_163 : decode cX12_walk 163 = .ok (.getfield 286, 3) := by decide +kernel
theorem dX12_walk_166 : decode cX12_walk 166 = .ok (.ireturn, 1) := by decide +kernel
theorem dX12_walked_0 : decode cX12_walked 0 = .ok (.aload_n 0, 1) := by decide +kernel
theorem dX12_walked_1 : decode cX12_walked 1 = .ok (.invokevirtual 144, 3) := by decide +kernel
theorem dX12_walked_4 : decode cX12_walked 4 = .ok (.iload_n 1, 1) := by decide +kernel
theorem dX12_walked_5 : decode cX12_walked 5 = .ok (.i2l, 1) := by decide +kernel
theorem dX12_walked_6 : decode cX12_walked 6 = .ok (.lconst 0, 1) := by decide +kernel
theorem dX12_walked_7 : decode cX12_walked 7 = .ok (.aload_n 0, 1) := by decide +kernel
theorem dX12_walked_8 : decode cX12_walked 8 = .ok (.getfield 286, 3) := by decide +kernel
theorem dX12_walked_11 : decode cX12_walked 11 = .ok (.iconst 1, 1) := by decide +kernel
theorem dX12_walked_12 : decode cX12_walked 12 = .ok (.isub, 1) := by decide +kernel
theorem dX12_walked_13 : decode cX12_walked 13 = .ok (.i2l, 1) := by decide +kernel
theorem dX12_walked_14 : decode cX12_walked 14 = .ok (.invokestatic 137, 3) := by decide +kernel
theorem dX12_walked_17 : decode cX12_walked 17 = .ok (.ifCond .eq 12, 3) := by decide +kernel
theorem dX12_walked_20 : decode cX12_walked 20 = .ok (.aload_n 0, 1) := by decide +kernel
theorem dX12_walked_21 : decode cX12_walked 21 = .ok (.getfield 81, 3) := by decide +kernel
theorem dX12_walked_24 : decode cX12_walked 24 = .ok (.iload_n 1, 1) := by decide +kernel
theorem dX12_walked_25 : decode cX12_walked 25 = .ok (.iaload, 1) := by decide +kernel
theorem dX12_walked_26 : decode cX12_walked 26 = .ok (.goto 4, 3) := by decide +kernel
theorem dX12_walked_29 : decode cX12_walked 29 = .ok (.iconst (-1), 1) := by decide +kernel
theorem dX12_walked_30 : decode cX12_walked 30 = .ok (.ireturn, 1) := by decide +kernel
theorem dX12_finds_0 : decode cX12_finds 0 = .ok (.aload_n 0, 1) := by decide +kernel
theorem dX12_finds_1 : decode cX12_finds 1 = .ok (.getfield 289, 3) := by decide +kernel
theorem dX12_finds_4 : decode cX12_finds 4 = .ok (.bipush 100, 2) := by decide +kernel
theorem dX12_finds_6 : decode cX12_finds 6 = .ok (.if_icmp .ge 43, 3) := by decide +kernel
theorem dX12_finds_9 : decode cX12_finds 9 = .ok (.aload_n 0, 1) := by decide +kernel
theorem dX12_finds_10 : decode cX12_finds 10 = .ok (.getfield 84, 3) := by decide +kernel
theorem dX12_finds_13 : decode cX12_finds 13 = .ok (.iconst 3, 1) := by decide +kernel
theorem dX12_finds_14 : decode cX12_finds 14 = .ok (.aload_n 0, 1) := by decide +kernel
theorem dX12_finds_15 : decode cX12_finds 15 = .ok (.getfield 289, 3) := by decide +kernel
theorem dX12_finds_18 : decode cX12_finds 18 = .ok (.imul, 1) := by decide +kernel
theorem dX12_finds_19 : decode cX12_finds 19 = .ok (.iload_n 1, 1) := by decide +kernel
theorem dX12_finds_20 : decode cX12_finds 20 = .ok (.iastore, 1) := by decide +kernel
theorem dX12_finds_21 : decode cX12_finds 21 = .ok (.aload_n 0, 1) := by decide +kernel
theorem dX12_finds_22 : decode cX12_finds 22 = .ok (.getfield 84, 3) := by decide +kernel
theorem dX12_finds_25 : decode cX12_finds 25 = .ok (.iconst 3, 1) := by decide +kernel
theorem dX12_finds_26 : decode cX12_finds 26 = .ok (.aload_n 0, 1) := by decide +kernel
theorem dX12_finds_27 : decode cX12_finds 27 = .ok (.getfield 289, 3) := by decide +kernel
theorem dX12_finds_30 : decode cX12_finds 30 = .ok (.imul, 1) := by decide +kernel
theorem dX12_finds_31 : decode cX12_finds 31 = .ok (.iconst 1, 1) := by decide +kernel
theorem dX12_finds_32 : decode cX12_finds 32 = .ok (.iadd, 1) := by decide +kernel
theorem dX12_finds_33 : decode cX12_finds 33 = .ok (.iload_n 2, 1) := by decide +kernel
theorem dX12_finds_34 : decode cX12_finds 34 = .ok (.iastore, 1) := by decide +kernel
theorem dX12_finds_35 : decode cX12_finds 35 = .ok (.aload_n 0, 1) := by decide +kernel
theorem dX12_finds_36 : decode cX12_finds 36 = .ok (.getfield 84, 3) := by decide +kernel
theorem dX12_finds_39 : decode cX12_finds 39 = .ok (.iconst 3, 1) := by decide +kernel
theorem dX12_finds_40 : decode cX12_finds 40 = .ok (.aload_n 0, 1) := by decide +kernel
theorem dX12_finds_41 : decode cX12_finds 41 = .ok (.getfield 289, 3) := by decide +kernel
theorem dX12_finds_44 : decode cX12_finds 44 = .ok (.imul, 1) := by decide +kernel
theorem dX12_finds_45 : decode cX12_finds 45 = .ok (.iconst 2, 1) := by decide +kernel
theorem dX12_finds_46 : decode cX12_finds 46 = .ok (.iadd, 1) := by decide +kernel
theorem dX12_finds_47 : decode cX12_finds 47 = .ok (.iload_n 3, 1) := by decide +kernel
theorem dX12_finds_48 : decode cX12_finds 48 = .ok (.iastore, 1) := by decide +kernel
theorem dX12_finds_49 : decode cX12_finds 49 = .ok (.aload_n 0, 1) := by decide +kernel
theorem dX12_finds_50 : decode cX12_finds 50 = .ok (.dup, 1) := by decide +kernel
theorem dX12_finds_51 : decode cX12_finds 51 = .ok (.getfield 289, 3) := by decide +kernel
theorem dX12_finds_54 : decode cX12_finds 54 = .ok (.iconst 1, 1) := by decide +kernel
theorem dX12_finds_55 : decode cX12_finds 55 = .ok (.iadd, 1) := by decide +kernel
theorem dX12_finds_56 : decode cX12_finds 56 = .ok (.putfield 289, 3) := by decide +kernel
theorem dX12_finds_59 : decode cX12_finds 59 = .ok (.return_, 1) := by decide +kernel
theorem dX12_hasPitch_0 : decode cX12_hasPitch 0 = .ok (.iconst 0, 1) := by decide +kernel
theorem dX12_hasPitch_1 : decode cX12_hasPitch 1 = .ok (.istore_n 3, 1) := by decide +kernel
theorem dX12_hasPitch_2 : decode cX12_hasPitch 2 = .ok (.iconst 0, 1) := by decide +kernel
theorem dX12_hasPitch_3 : decode cX12_hasPitch 3 = .ok (.istore 4, 2) := by decide +kernel
theorem dX12_hasPitch_5 : decode cX12_hasPitch 5 = .ok (.iload 4, 2) := by decide +kernel
theorem dX12_hasPitch_7 : decode cX12_hasPitch 7 = .ok (.aload_n 0, 1) := by decide +kernel
theorem dX12_hasPitch_8 : decode cX12_hasPitch 8 = .ok (.getfield 27, 3) := by decide +kernel
theorem dX12_hasPitch_11 : decode cX12_hasPitch 11 = .ok (.iload_n 1, 1) := by decide +kernel
theorem dX12_hasPitch_12 : decode cX12_hasPitch 12 = .ok (.iaload, 1) := by decide +kernel
theorem dX12_hasPitch_13 : decode cX12_hasPitch 13 = .ok (.if_icmp .ge 33, 3) := by decide +kernel
theorem dX12_hasPitch_16 : decode cX12_hasPitch 16 = .ok (.iload_n 3, 1) := by decide +kernel
theorem dX12_hasPitch_17 : decode cX12_hasPitch 17 = .ok (.aload_n 0, 1) := by decide +kernel
theorem dX12_hasPitch_18 : decode cX12_hasPitch 18 = .ok (.getfield 30, 3) := by decide +kernel
theorem dX12_hasPitch_21 : decode cX12_hasPitch 21 = .ok (.bipush 6, 2) := by decide +kernel
theorem dX12_hasPitch_23 : decode cX12_hasPitch 23 = .ok (.iload_n 1, 1) := by decide +kernel
theorem dX12_hasPitch_24 : decode cX12_hasPitch 24 = .ok (.imul, 1) := by decide +kernel
theorem dX12_hasPitch_25 : decode cX12_hasPitch 25 = .ok (.iload 4, 2) := by decide +kernel
theorem dX12_hasPitch_27 : decode cX12_hasPitch 27 = .ok (.iadd, 1) := by decide +kernel
theorem dX12_hasPitch_28 : decode cX12_hasPitch 28 = .ok (.iaload, 1) := by decide +kernel
theorem dX12_hasPitch_29 : decode cX12_hasPitch 29 = .ok (.iload_n 2, 1) := by decide +kernel
theorem dX12_hasPitch_30 : decode cX12_hasPitch 30 = .ok (.if_icmp .ne 7, 3) := by decide +kernel
theorem dX12_hasPitch_33 : decode cX12_hasPitch 33 = .ok (.iconst 1, 1) := by decide +kernel
theorem dX12_hasPitch_34 : decode cX12_hasPitch 34 = .ok (.goto 4, 3) := by decide +kernel
theorem dX12_hasPitch_37 : decode cX12_hasPitch 37 = .ok (.iconst 0, 1) := by decide +kernel
theorem dX12_hasPitch_38 : decode cX12_hasPitch 38 = .ok (.ior, 1) := by decide +kernel
theorem dX12_hasPitch_39 : decode cX12_hasPitch 39 = .ok (.istore_n 3, 1) := by decide +kernel
theorem dX12_hasPitch_40 : decode cX12_hasPitch 40 = .ok (.iinc 4 1, 3) := by decide +kernel
theorem dX12_hasPitch_43 : decode cX12_hasPitch 43 = .ok (.goto (-38), 3) := by decide +kernel
theorem dX12_hasPitch_46 : decode cX12_hasPitch 46 = .ok (.iload_n 3, 1) := by decide +kernel
theorem dX12_hasPitch_47 : decode cX12_hasPitch 47 = .ok (.ireturn, 1) := by decide +kernel
theorem dX12_isTieWrong_0 : decode cX12_isTieWrong 0 = .ok (.aload_n 0, 1) := by decide +kernel
theorem dX12_isTieWrong_1 : decode cX12_isTieWrong 1 = .ok (.getfield 42, 3) := by decide +kernel
theorem dX12_isTieWrong_4 : decode cX12_isTieWrong 4 = .ok (.bipush 40, 2) := by decide +kernel
theorem dX12_isTieWrong_6 : decode cX12_isTieWrong 6 = .ok (.iload_n 1, 1) := by decide +kernel
theorem dX12_isTieWrong_7 : decode cX12_isTieWrong 7 = .ok (.imul, 1) := by decide +kernel
theorem dX12_isTieWrong_8 : decode cX12_isTieWrong 8 = .ok (.iload_n 2, 1) := by decide +kernel
theorem dX12_isTieWrong_9 : decode cX12_isTieWrong 9 = .ok (.iadd, 1) := by decide +kernel
theorem dX12_isTieWrong_10 : decode cX12_isTieWrong 10 = .ok (.iaload, 1) := by decide +kernel
theorem dX12_isTieWrong_11 : decode cX12_isTieWrong 11 = .ok (.istore_n 3, 1) := by decide +kernel
theorem dX12_isTieWrong_12 : decode cX12_isTieWrong 12 = .ok (.aload_n 0, 1) := by decide +kernel
theorem dX12_isTieWrong_13 : decode cX12_isTieWrong 13 = .ok (.iload_n 3, 1) := by decide +kernel
theorem dX12_isTieWrong_14 : decode cX12_isTieWrong 14 = .ok (.invokevirtual 214, 3) := by decide +kernel
theorem dX12_isTieWrong_17 : decode cX12_isTieWrong 17 = .ok (.ifCond .eq 12, 3) := by decide +kernel
theorem dX12_isTieWrong_20 : decode cX12_isTieWrong 20 = .ok (.aload_n 0, 1) := by decide +kernel
theorem dX12_isTieWrong_21 : decode cX12_isTieWrong 21 = .ok (.getfield 39, 3) := by decide +kernel
theorem dX12_isTieWrong_24 : decode cX12_isTieWrong 24 = .ok (.iload_n 3, 1) := by decide +kernel
theorem dX12_isTieWrong_25 : decode cX12_isTieWrong 25 = .ok (.baload, 1) := by decide +kernel
theorem dX12_isTieWrong_26 : decode cX12_isTieWrong 26 = .ok (.ifCond .ne 5, 3) := by decide +kernel
theorem dX12_isTieWrong_29 : decode cX12_isTieWrong 29 = .ok (.iconst 0, 1) := by decide +kernel
theorem dX12_isTieWrong_30 : decode cX12_isTieWrong 30 = .ok (.ireturn, 1) := by decide +kernel
theorem dX12_isTieWrong_31 : decode cX12_isTieWrong 31 = .ok (.iload_n 2, 1) := by decide +kernel
theorem dX12_isTieWrong_32 : decode cX12_isTieWrong 32 = .ok (.iconst 1, 1) := by decide +kernel
theorem dX12_isTieWrong_33 : decode cX12_isTieWrong 33 = .ok (.iadd, 1) := by decide +kernel
theorem dX12_isTieWrong_34 : decode cX12_isTieWrong 34 = .ok (.istore 4, 2) := by decide +kernel
theorem dX12_isTieWrong_36 : decode cX12_isTieWrong 36 = .ok (.iload 4, 2) := by decide +kernel
theorem dX12_isTieWrong_38 : decode cX12_isTieWrong 38 = .ok (.aload_n 0, 1) := by decide +kernel
theorem dX12_isTieWrong_39 : decode cX12_isTieWrong 39 = .ok (.getfield 45, 3) := by decide +kernel
theorem dX12_isTieWrong_42 : decode cX12_isTieWrong 42 = .ok (.iload_n 1, 1) := by decide +kernel
theorem dX12_isTieWrong_43 : decode cX12_isTieWrong 43 = .ok (.iaload, 1) := by decide +kernel
theorem dX12_isTieWrong_44 : decode cX12_isTieWrong 44 = .ok (.if_icmp .ge 51, 3) := by decide +kernel
theorem dX12_isTieWrong_47 : decode cX12_isTieWrong 47 = .ok (.aload_n 0, 1) := by decide +kernel
theorem dX12_isTieWrong_48 : decode cX12_isTieWrong 48 = .ok (.getfield 24, 3) := by decide +kernel
theorem dX12_isTieWrong_51 : decode cX12_isTieWrong 51 = .ok (.aload_n 0, 1) := by decide +kernel
theorem dX12_isTieWrong_52 : decode cX12_isTieWrong 52 = .ok (.getfield 42, 3) := by decide +kernel
theorem dX12_isTieWrong_55 : decode cX12_isTieWrong 55 = .ok (.bipush 40, 2) := by decide +kernel
theorem dX12_isTieWrong_57 : decode cX12_isTieWrong 57 = .ok (.iload_n 1, 1) := by decide +kernel
theorem dX12_isTieWrong_58 : decode cX12_isTieWrong 58 = .ok (.imul, 1) := by decide +kernel
theorem dX12_isTieWrong_59 : decode cX12_isTieWrong 59 = .ok (.iload 4, 2) := by decide +kernel
theorem dX12_isTieWrong_61 : decode cX12_isTieWrong 61 = .ok (.iadd, 1) := by decide +kernel
theorem dX12_isTieWrong_62 : decode cX12_isTieWrong 62 = .ok (.iaload, 1) := by decide +kernel
theorem dX12_isTieWrong_63 : decode cX12_isTieWrong 63 = .ok (.iaload, 1) := by decide +kernel
theorem dX12_isTieWrong_64 : decode cX12_isTieWrong 64 = .ok (.iconst 2, 1) := by decide +kernel
theorem dX12_isTieWrong_65 : decode cX12_isTieWrong 65 = .ok (.if_icmp .eq 24, 3) := by decide +kernel
theorem dX12_isTieWrong_68 : decode cX12_isTieWrong 68 = .ok (.aload_n 0, 1) := by decide +kernel
theorem dX12_isTieWrong_69 : decode cX12_isTieWrong 69 = .ok (.getfield 24, 3) := by decide +kernel
theorem dX12_isTieWrong_72 : decode cX12_isTieWrong 72 = .ok (.aload_n 0, 1) := by decide +kernel
theorem dX12_isTieWrong_73 : decode cX12_isTieWrong 73 = .ok (.getfield 42, 3) := by decide +kernel
theorem dX12_isTieWrong_76 : decode cX12_isTieWrong 76 = .ok (.bipush 40, 2) := by decide +kernel
theorem dX12_isTieWrong_78 : decode cX12_isTieWrong 78 = .ok (.iload_n 1, 1) := by decide +kernel
theorem dX12_isTieWrong_79 : decode cX12_isTieWrong 79 = .ok (.imul, 1) := by decide +kernel
theorem dX12_isTieWrong_80 : decode cX12_isTieWrong 80 = .ok (.iload 4, 2) := by decide +kernel
theorem dX12_isTieWrong_82 : decode cX12_isTieWrong 82 = .ok (.iadd, 1) := by decide +kernel
theorem dX12_isTieWrong_83 : decode cX12_isTieWrong 83 = .ok (.iaload, 1) := by decide +kernel
theorem dX12_isTieWrong_84 : decode cX12_isTieWrong 84 = .ok (.iaload, 1) := by decide +kernel
theorem dX12_isTieWrong_85 : decode cX12_isTieWrong 85 = .ok (.iconst 4, 1) := by decide +kernel
theorem dX12_isTieWrong_86 : decode cX12_isTieWrong 86 = .ok (.if_icmp .ne 9, 3) := by decide +kernel
theorem dX12_isTieWrong_89 : decode cX12_isTieWrong 89 = .ok (.iinc 4 1, 3) := by decide +kernel
theorem dX12_isTieWrong_92 : decode cX12_isTieWrong 92 = .ok (.goto (-56), 3) := by decide +kernel
theorem dX12_isTieWrong_95 : decode cX12_isTieWrong 95 = .ok (.iload 4, 2) := by decide +kernel
theorem dX12_isTieWrong_97 : decode cX12_isTieWrong 97 = .ok (.aload_n 0, 1) := by decide +kernel
theorem dX12_isTieWrong_98 : decode cX12_isTieWrong 98 = .ok (.getfield 45, 3) := by decide +kernel
theorem dX12_isTieWrong_101 : decode cX12_isTieWrong 101 = .ok (.iload_n 1, 1) := by decide +kernel
theorem dX12_isTieWrong_102 : decode cX12_isTieWrong 102 = .ok (.iaload, 1) := by decide +kernel
theorem dX12_isTieWrong_103 : decode cX12_isTieWrong 103 = .ok (.if_icmp .ne 5, 3) := by decide +kernel
theorem dX12_isTieWrong_106 : decode cX12_isTieWrong 106 = .ok (.iconst 1, 1) := by decide +kernel
theorem dX12_isTieWrong_107 : decode cX12_isTieWrong 107 = .ok (.ireturn, 1) := by decide +kernel
theorem dX12_isTieWrong_108 : decode cX12_isTieWrong 108 = .ok (.aload_n 0, 1) := by decide +kernel
theorem dX12_isTieWrong_109 : decode cX12_isTieWrong 109 = .ok (.getfield 42, 3) := by decide +kernel
theorem dX12_isTieWrong_112 : decode cX12_isTieWrong 112 = .ok (.bipush 40, 2) := by decide +kernel
theorem dX12_isTieWrong_114 : decode cX12_isTieWrong 114 = .ok (.iload_n 1, 1) := by decide +kernel
theorem dX12_isTieWrong_115 : decode cX12_isTieWrong 115 = .ok (.imul, 1) := by decide +kernel
theorem dX12_isTieWrong_116 : decode cX12_isTieWrong 116 = .ok (.iload 4, 2) := by decide +kernel
theorem dX12_isTieWrong_118 : decode cX12_isTieWrong 118 = .ok (.iadd, 1) := by decide +kernel
theorem dX12_isTieWrong_119 : decode cX12_isTieWrong 119 = .ok (.iaload, 1) := by decide +kernel
theorem dX12_isTieWrong_120 : decode cX12_isTieWrong 120 = .ok (.istore 5, 2) := by decide +kernel
theorem dX12_isTieWrong_122 : decode cX12_isTieWrong 122 = .ok (.aload_n 0, 1) := by decide +kernel
theorem dX12_isTieWrong_123 : decode cX12_isTieWrong 123 = .ok (.iload 5, 2) := by decide +kernel
theorem dX12_isTieWrong_125 : decode cX12_isTieWrong 125 = .ok (.invokevirtual 214, 3) := by decide +kernel
theorem dX12_isTieWrong_128 : decode cX12_isTieWrong 128 = .ok (.istore 6, 2) := by decide +kernel
theorem dX12_isTieWrong_130 : decode cX12_isTieWrong 130 = .ok (.iconst 0, 1) := by decide +kernel
theorem dX12_isTieWrong_131 : decode cX12_isTieWrong 131 = .ok (.istore 7, 2) := by decide +kernel
theorem dX12_isTieWrong_133 : decode cX12_isTieWrong 133 = .ok (.iload 7, 2) := by decide +kernel
theorem dX12_isTieWrong_135 : decode cX12_isTieWrong 135 = .ok (.aload_n 0, 1) := by decide +kernel
theorem dX12_isTieWrong_136 : decode cX12_isTieWrong 136 = .ok (.getfield 27, 3) := by decide +kernel
theorem dX12_isTieWrong_139 : decode cX12_isTieWrong 139 = .ok (.iload_n 3, 1) := by decide +kernel
theorem dX12_isTieWrong_140 : decode cX12_isTieWrong 140 = .ok (.iaload, 1) := by decide +kernel
theorem dX12_isTieWrong_141 : decode cX12_isTieWrong 141 = .ok (.if_icmp .ge 32, 3) := by decide +kernel
theorem dX12_isTieWrong_144 : decode cX12_isTieWrong 144 = .ok (.iload 6, 2) := by decide +kernel
theorem dX12_isTieWrong_146 : decode cX12_isTieWrong 146 = .ok (.aload_n 0, 1) := by decide +kernel
theorem dX12_isTieWrong_147 : decode cX12_isTieWrong 147 = .ok (.iload 5, 2) := by decide +kernel
theorem dX12_isTieWrong_149 : decode cX12_isTieWrong 149 = .ok (.aload_n 0, 1) := by decide +kernel
theorem dX12_isTieWrong_150 : decode cX12_isTieWrong 150 = .ok (.getfield 30, 3) := by decide +kernel
theorem dX12_isTieWrong_153 : decode cX12_isTieWrong 153 = .ok (.bipush 6, 2) := by decide +kernel
theorem dX12_isTieWrong_155 : decode cX12_isTieWrong 155 = .ok (.iload_n 3, 1) := by decide +kernel
theorem dX12_isTieWrong_156 : decode cX12_isTieWrong 156 = .ok (.imul, 1) := by decide +kernel
theorem dX12_isTieWrong_157 : decode cX12_isTieWrong 157 = .ok (.iload 7, 2) := by decide +kernel
theorem dX12_isTieWrong_159 : decode cX12_isTieWrong 159 = .ok (.iadd, 1) := by decide +kernel
theorem dX12_isTieWrong_160 : decode cX12_isTieWrong 160 = .ok (.iaload, 1) := by decide +kernel
theorem dX12_isTieWrong_161 : decode cX12_isTieWrong 161 = .ok (.invokevirtual 292, 3) := by decide +kernel
theorem dX12_isTieWrong_164 : decode cX12_isTieWrong 164 = .ok (.iand, 1) := by decide +kernel
theorem dX12_isTieWrong_165 : decode cX12_isTieWrong 165 = .ok (.istore 6, 2) := by decide +kernel
theorem dX12_isTieWrong_167 : decode cX12_isTieWrong 167 = .ok (.iinc 7 1, 3) := by decide +kernel
theorem dX12_isTieWrong_170 : decode cX12_isTieWrong 170 = .ok (.goto (-37), 3) := by decide +kernel
theorem dX12_isTieWrong_173 : decode cX12_isTieWrong 173 = .ok (.iload 6, 2) := by decide +kernel
theorem dX12_isTieWrong_175 : decode cX12_isTieWrong 175 = .ok (.ifCond .ne 7, 3) := by decide +kernel
theorem dX12_isTieWrong_178 : decode cX12_isTieWrong 178 = .ok (.iconst 1, 1) := by decide +kernel
theorem dX12_isTieWrong_179 : decode cX12_isTieWrong 179 = .ok (.goto 4, 3) := by decide +kernel
theorem dX12_isTieWrong_182 : decode cX12_isTieWrong 182 = .ok (.iconst 0, 1) := by decide +kernel
theorem dX12_isTieWrong_183 : decode cX12_isTieWrong 183 = .ok (.ireturn, 1) := by decide +kernel
theorem dX12_isOut_0 : decode cX12_isOut 0 = .ok (.aload_n 0, 1) := by decide +kernel
theorem dX12_isOut_1 : decode cX12_isOut 1 = .ok (.getfield 7, 3) := by decide +kernel
theorem dX12_isOut_4 : decode cX12_isOut 4 = .ok (.aload_n 0, 1) := by decide +kernel
theorem dX12_isOut_5 : decode cX12_isOut 5 = .ok (.getfield 21, 3) := by decide +kernel
theorem dX12_isOut_8 : decode cX12_isOut 8 = .ok (.iload_n 1, 1) := by decide +kernel
theorem dX12_isOut_9 : decode cX12_isOut 9 = .ok (.iaload, 1) := by decide +kernel
theorem dX12_isOut_10 : decode cX12_isOut 10 = .ok (.iconst 3, 1) := by decide +kernel
theorem dX12_isOut_11 : decode cX12_isOut 11 = .ok (.idiv, 1) := by decide +kernel
theorem dX12_isOut_12 : decode cX12_isOut 12 = .ok (.iaload, 1) := by decide +kernel
theorem dX12_isOut_13 : decode cX12_isOut 13 = .ok (.istore_n 2, 1) := by decide +kernel
theorem dX12_isOut_14 : decode cX12_isOut 14 = .ok (.iconst 0, 1) := by decide +kernel
theorem dX12_isOut_15 : decode cX12_isOut 15 = .ok (.istore_n 3, 1) := by decide +kernel
theorem dX12_isOut_16 : decode cX12_isOut 16 = .ok (.aload_n 0, 1) := by decide +kernel
theorem dX12_isOut_17 : decode cX12_isOut 17 = .ok (.iload_n 1, 1) := by decide +kernel
theorem dX12_isOut_18 : decode cX12_isOut 18 = .ok (.invokevirtual 214, 3) := by decide +kernel
theorem dX12_isOut_21 : decode cX12_isOut 21 = .ok (.ifCond .eq 48, 3) := by decide +kernel
theorem dX12_isOut_24 : decode cX12_isOut 24 = .ok (.iload_n 3, 1) := by decide +kernel
theorem dX12_isOut_25 : decode cX12_isOut 25 = .ok (.aload_n 0, 1) := by decide +kernel
theorem dX12_isOut_26 : decode cX12_isOut 26 = .ok (.getfield 27, 3) := by decide +kernel
theorem dX12_isOut_29 : decode cX12_isOut 29 = .ok (.iload_n 1, 1) := by decide +kernel
theorem dX12_isOut_30 : decode cX12_isOut 30 = .ok (.iaload, 1) := by decide +kernel
theorem dX12_isOut_31 : decode cX12_isOut 31 = .ok (.if_icmp .ge 38, 3) := by decide +kernel
theorem dX12_isOut_34 : decode cX12_isOut 34 = .ok (.aload_n 0, 1) := by decide +kernel
theorem dX12_isOut_35 : decode cX12_isOut 35 = .ok (.iload_n 1, 1) := by decide +kernel
theorem dX12_isOut_36 : decode cX12_isOut 36 = .ok (.iload_n 3, 1) := by decide +kernel
theorem dX12_isOut_37 : decode cX12_isOut 37 = .ok (.invokevirtual 220, 3) := by decide +kernel
theorem dX12_isOut_40 : decode cX12_isOut 40 = .ok (.istore 4, 2) := by decide +kernel
theorem dX12_isOut_42 : decode cX12_isOut 42 = .ok (.iload 4, 2) := by decide +kernel
theorem dX12_isOut_44 : decode cX12_isOut 44 = .ok (.aload_n 0, 1) := by decide +kernel
theorem dX12_isOut_45 : decode cX12_isOut 45 = .ok (.iload_n 2, 1) := by decide +kernel
theorem dX12_isOut_46 : decode cX12_isOut 46 = .ok (.invokevirtual 178, 3) := by decide +kernel
theorem dX12_isOut_49 : decode cX12_isOut 49 = .ok (.if_icmp .lt 12, 3) := by decide +kernel
theorem dX12_isOut_52 : decode cX12_isOut 52 = .ok (.iload 4, 2) := by decide +kernel
theorem dX12_isOut_54 : decode cX12_isOut 54 = .ok (.iload_n 2, 1) := by decide +kernel
theorem dX12_isOut_55 : decode cX12_isOut 55 = .ok (.invokestatic 181, 3) := by decide +kernel
theorem dX12_isOut_58 : decode cX12_isOut 58 = .ok (.if_icmp .le 5, 3) := by decide +kernel
theorem dX12_isOut_61 : decode cX12_isOut 61 = .ok (.iconst 1, 1) := by decide +kernel
theorem dX12_isOut_62 : decode cX12_isOut 62 = .ok (.ireturn, 1) := by decide +kernel
theorem dX12_isOut_63 : decode cX12_isOut 63 = .ok (.iinc 3 1, 3) := by decide +kernel
theorem dX12_isOut_66 : decode cX12_isOut 66 = .ok (.goto (-50), 3) := by decide +kernel
theorem dX12_isOut_69 : decode cX12_isOut 69 = .ok (.iconst 0, 1) := by decide +kernel
theorem dX12_isOut_70 : decode cX12_isOut 70 = .ok (.ireturn, 1) := by decide +kernel
theorem dX12_checkVoice_0 : decode cX12_checkVoice 0 = .ok (.lconst 0, 1) := by decide +kernel
theorem dX12_checkVoice_1 : decode cX12_checkVoice 1 = .ok (.lstore 4, 2) := by decide +kernel
theorem dX12_checkVoice_3 : decode cX12_checkVoice 3 = .ok (.iconst 0, 1) := by decide +kernel
theorem dX12_checkVoice_4 : decode cX12_checkVoice 4 = .ok (.istore 6, 2) := by decide +kernel
theorem dX12_checkVoice_6 : decode cX12_checkVoice 6 = .ok (.iload 6, 2) := by decide +kernel
theorem dX12_checkVoice_8 : decode cX12_checkVoice 8 = .ok (.aload_n 0, 1) := by decide +kernel
theorem dX12_checkVoice_9 : decode cX12_checkVoice 9 = .ok (.getfield 45, 3) := by decide +kernel
theorem dX12_checkVoice_12 : decode cX12_checkVoice 12 = .ok (.iload_n 1, 1) := by decide +kernel
theorem dX12_checkVoice_13 : decode cX12_checkVoice 13 = .ok (.iaload, 1) := by decide +kernel
theorem dX12_checkVoice_14 : decode cX12_checkVoice 14 = .ok (.if_icmp .ge 106, 3) := by decide +kernel
theorem dX12_checkVoice_17 : decode cX12_checkVoice 17 = .ok (.aload_n 0, 1) := by decide +kernel
theorem dX12_checkVoice_18 : decode cX12_checkVoice 18 = .ok (.getfield 42, 3) := by decide +kernel
theorem dX12_checkVoice_21 : decode cX12_checkVoice 21 = .ok (.bipush 40, 2) := by decide +kernel
theorem dX12_checkVoice_23 : decode cX12_checkVoice 23 = .ok (.iload_n 1, 1) := by decide +kernel
theorem dX12_checkVoice_24 : decode cX12_checkVoice 24 = .ok (.imul, 1) := by decide +kernel
theorem dX12_checkVoice_25 : decode cX12_checkVoice 25 = .ok (.iload 6, 2) := by decide +kernel
theorem dX12_checkVoice_27 : decode cX12_checkVoice 27 = .ok (.iadd, 1) := by decide +kernel
theorem dX12_checkVoice_28 : decode cX12_checkVoice 28 = .ok (.iaload, 1) := by decide +kernel
theorem dX12_checkVoice_29 : decode cX12_checkVoice 29 = .ok (.istore 7, 2) := by decide +kernel
theorem dX12_checkVoice_31 : decode cX12_checkVoice 31 = .ok (.aload_n 0, 1) := by decide +kernel
theorem dX12_checkVoice_32 : decode cX12_checkVoice 32 = .ok (.lload 4, 2) := by decide +kernel
theorem dX12_checkVoice_34 : decode cX12_checkVoice 34 = .ok (.invokevirtual 261, 3) := by decide +kernel
theorem dX12_checkVoice_37 : decode cX12_checkVoice 37 = .ok (.istore 8, 2) := by decide +kernel
theorem dX12_checkVoice_39 : decode cX12_checkVoice 39 = .ok (.lload 4, 2) := by decide +kernel
theorem dX12_checkVoice_41 : decode cX12_checkVoice 41 = .ok (.aload_n 0, 1) := by decide +kernel
theorem dX12_checkVoice_42 : decode cX12_checkVoice 42 = .ok (.iload 7, 2) := by decide +kernel
theorem dX12_checkVoice_44 : decode cX12_checkVoice 44 = .ok (.invokevirtual 243, 3) := by decide +kernel
theorem dX12_checkVoice_47 : decode cX12_checkVoice 47 = .ok (.ladd, 1) := by decide +kernel
theorem dX12_checkVoice_48 : decode cX12_checkVoice 48 = .ok (.lstore 4, 2) := by decide +kernel
theorem dX12_checkVoice_50 : decode cX12_checkVoice 50 = .ok (.iload 8, 2) := by decide +kernel
theorem dX12_checkVoice_52 : decode cX12_checkVoice 52 = .ok (.iconst (-1), 1) := by decide +kernel
theorem dX12_checkVoice_53 : decode cX12_checkVoice 53 = .ok (.if_icmp .eq 26, 3) := by decide +kernel
theorem dX12_checkVoice_56 : decode cX12_checkVoice 56 = .ok (.lload 4, 2) := by decide +kernel
theorem dX12_checkVoice_58 : decode cX12_checkVoice 58 = .ok (.aload_n 0, 1) := by decide +kernel
theorem dX12_checkVoice_59 : decode cX12_checkVoice 59 = .ok (.iload 8, 2) := by decide +kernel
theorem dX12_checkVoice_61 : decode cX12_checkVoice 61 = .ok (.iconst 1, 1) := by decide +kernel
theorem dX12_checkVoice_62 : decode cX12_checkVoice 62 = .ok (.iadd, 1) := by decide +kernel
theorem dX12_checkVoice_63 : decode cX12_checkVoice 63 = .ok (.invokevirtual 246, 3) := by decide +kernel
theorem dX12_checkVoice_66 : decode cX12_checkVoice 66 = .ok (.lcmp, 1) := by decide +kernel
theorem dX12_checkVoice_67 : decode cX12_checkVoice 67 = .ok (.ifCond .le 12, 3) := by decide +kernel
theorem dX12_checkVoice_70 : decode cX12_checkVoice 70 = .ok (.aload_n 0, 1) := by decide +kernel
theorem dX12_checkVoice_71 : decode cX12_checkVoice 71 = .ok (.iconst 0, 1) := by decide +kernel
theorem dX12_checkVoice_72 : decode cX12_checkVoice 72 = .ok (.iload 7, 2) := by decide +kernel
theorem dX12_checkVoice_74 : decode cX12_checkVoice 74 = .ok (.iload 8, 2) := by decide +kernel
theorem dX12_checkVoice_76 : decode cX12_checkVoice 76 = .ok (.invokevirtual 295, 3) := by decide +kernel
theorem dX12_checkVoice_79 : decode cX12_checkVoice 79 = .ok (.aload_n 0, 1) := by decide +kernel
theorem dX12_checkVoice_80 : decode cX12_checkVoice 80 = .ok (.iload_n 1, 1) := by decide +kernel
theorem dX12_checkVoice_81 : decode cX12_checkVoice 81 = .ok (.iload 6, 2) := by decide +kernel
theorem dX12_checkVoice_83 : decode cX12_checkVoice 83 = .ok (.invokevirtual 299, 3) := by decide +kernel
theorem dX12_checkVoice_86 : decode cX12_checkVoice 86 = .ok (.ifCond .eq 11, 3) := by decide +kernel
theorem dX12_checkVoice_89 : decode cX12_checkVoice 89 = .ok (.aload_n 0, 1) := by decide +kernel
theorem dX12_checkVoice_90 : decode cX12_checkVoice 90 = .ok (.iconst 1, 1) := by decide +kernel
theorem dX12_checkVoice_91 : decode cX12_checkVoice 91 = .ok (.iload 7, 2) := by decide +kernel
theorem dX12_checkVoice_93 : decode cX12_checkVoice 93 = .ok (.iconst (-1), 1) := by decide +kernel
theorem dX12_checkVoice_94 : decode cX12_checkVoice 94 = .ok (.invokevirtual 295, 3) := by decide +kernel
theorem dX12_checkVoice_97 : decode cX12_checkVoice 97 = .ok (.aload_n 0, 1) := by decide +kernel
theorem dX12_checkVoice_98 : decode cX12_checkVoice 98 = .ok (.iload 7, 2) := by decide +kernel
theorem dX12_checkVoice_100 : decode cX12_checkVoice 100 = .ok (.invokevirtual 302, 3) := by decide +kernel
theorem dX12_checkVoice_103 : decode cX12_checkVoice 103 = .ok (.ifCond .eq 11, 3) := by decide +kernel
theorem dX12_checkVoice_106 : decode cX12_checkVoice 106 = .ok (.aload_n 0, 1) := by decide +kernel
theorem dX12_checkVoice_107 : decode cX12_checkVoice 107 = .ok (.iconst 2, 1) := by decide +kernel
theorem dX12_checkVoice_108 : decode cX12_checkVoice 108 = .ok (.iload 7, 2) := by decide +kernel
theorem dX12_checkVoice_110 : decode cX12_checkVoice 110 = .ok (.iconst (-1), 1) := by decide +kernel
theorem dX12_checkVoice_111 : decode cX12_checkVoice 111 = .ok (.invokevirtual 295, 3) := by decide +kernel
theorem dX12_checkVoice_114 : decode cX12_checkVoice 114 = .ok (.iinc 6 1, 3) := by decide +kernel
theorem dX12_checkVoice_117 : decode cX12_checkVoice 117 = .ok (.goto (-111), 3) := by decide +kernel
theorem dX12_checkVoice_120 : decode cX12_checkVoice 120 = .ok (.aload_n 0, 1) := by decide +kernel
theorem dX12_checkVoice_121 : decode cX12_checkVoice 121 = .ok (.getfield 45, 3) := by decide +kernel
theorem dX12_checkVoice_124 : decode cX12_checkVoice 124 = .ok (.iload_n 1, 1) := by decide +kernel
theorem dX12_checkVoice_125 : decode cX12_checkVoice 125 = .ok (.iaload, 1) := by decide +kernel
theorem dX12_checkVoice_126 : decode cX12_checkVoice 126 = .ok (.ifCond .le 28, 3) := by decide +kernel
theorem dX12_checkVoice_129 : decode cX12_checkVoice 129 = .ok (.lload 4, 2) := by decide +kernel
theorem dX12_checkVoice_131 : decode cX12_checkVoice 131 = .ok (.lload_n 2, 1) := by decide +kernel
theorem dX12_checkVoice_132 : decode cX12_checkVoice 132 = .ok (.lcmp, 1) := by decide +kernel
theorem dX12_checkVoice_133 : decode cX12_checkVoice 133 = .ok (.ifCond .eq 21, 3) := by decide +kernel
theorem dX12_checkVoice_136 : decode cX12_checkVoice 136 = .ok (.aload_n 0, 1) := by decide +kernel
theorem dX12_checkVoice_137 : decode cX12_checkVoice 137 = .ok (.lload 4, 2) := by decide +kernel
theorem dX12_checkVoice_139 : decode cX12_checkVoice 139 = .ok (.lload_n 2, 1) := by decide +kernel
theorem dX12_checkVoice_140 : decode cX12_checkVoice 140 = .ok (.lcmp, 1) := by decide +kernel
theorem dX12_checkVoice_141 : decode cX12_checkVoice 141 = .ok (.ifCond .ge 7, 3) := by decide +kernel
theorem dX12_checkVoice_144 : decode cX12_checkVoice 144 = .ok (.iconst 3, 1) := by decide +kernel
theorem dX12_checkVoice_145 : decode cX12_checkVoice 145 = .ok (.goto 4, 3) := by decide +kernel
theorem dX12_checkVoice_148 : decode cX12_checkVoice 148 = .ok (.iconst 4, 1) := by decide +kernel
theorem dX12_checkVoice_149 : decode cX12_checkVoice 149 = .ok (.iload_n 1, 1) := by decide +kernel
theorem dX12_checkVoice_150 : decode cX12_checkVoice 150 = .ok (.iconst (-1), 1) := by decide +kernel
theorem dX12_checkVoice_151 : decode cX12_checkVoice 151 = .ok (.invokevirtual 295, 3) := by decide +kernel
theorem dX12_checkVoice_154 : decode cX12_checkVoice 154 = .ok (.return_, 1) := by decide +kernel
theorem dX12_isSumWrong_0 : decode cX12_isSumWrong 0 = .ok (.lconst 0, 1) := by decide +kernel
theorem dX12_isSumWrong_1 : decode cX12_isSumWrong 1 = .ok (.lstore_n 2, 1) := by decide +kernel
theorem dX12_isSumWrong_2 : decode cX12_isSumWrong 2 = .ok (.aload_n 0, 1) := by decide +kernel
theorem dX12_isSumWrong_3 : decode cX12_isSumWrong 3 = .ok (.getfield 51, 3) := by decide +kernel
theorem dX12_isSumWrong_6 : decode cX12_isSumWrong 6 = .ok (.iload_n 1, 1) := by decide +kernel
theorem dX12_isSumWrong_7 : decode cX12_isSumWrong 7 = .ok (.iaload, 1) := by decide +kernel
theorem dX12_isSumWrong_8 : decode cX12_isSumWrong 8 = .ok (.istore 4, 2) := by decide +kernel
theorem dX12_isSumWrong_10 : decode cX12_isSumWrong 10 = .ok (.aload_n 0, 1) := by decide +kernel
theorem dX12_isSumWrong_11 : decode cX12_isSumWrong 11 = .ok (.aload_n 0, 1) := by decide +kernel
theorem dX12_isSumWrong_12 : decode cX12_isSumWrong 12 = .ok (.getfield 57, 3) := by decide +kernel
theorem dX12_isSumWrong_15 : decode cX12_isSumWrong 15 = .ok (.iload_n 1, 1) := by decide +kernel
theorem dX12_isSumWrong_16 : decode cX12_isSumWrong 16 = .ok (.iaload, 1) := by decide +kernel
theorem dX12_isSumWrong_17 : decode cX12_isSumWrong 17 = .ok (.invokevirtual 196, 3) := by decide +kernel
theorem dX12_isSumWrong_20 : decode cX12_isSumWrong 20 = .ok (.istore 5, 2) := by decide +kernel
theorem dX12_isSumWrong_22 : decode cX12_isSumWrong 22 = .ok (.aload_n 0, 1) := by decide +kernel
theorem dX12_isSumWrong_23 : decode cX12_isSumWrong 23 = .ok (.aload_n 0, 1) := by decide +kernel
theorem dX12_isSumWrong_24 : decode cX12_isSumWrong 24 = .ok (.getfield 54, 3) := by decide +kernel
theorem dX12_isSumWrong_27 : decode cX12_isSumWrong 27 = .ok (.iload_n 1, 1) := by decide +kernel
theorem dX12_isSumWrong_28 : decode cX12_isSumWrong 28 = .ok (.iaload, 1) := by decide +kernel
theorem dX12_isSumWrong_29 : decode cX12_isSumWrong 29 = .ok (.invokevirtual 196, 3) := by decide +kernel
theorem dX12_isSumWrong_32 : decode cX12_isSumWrong 32 = .ok (.istore 6, 2) := by decide +kernel
theorem dX12_isSumWrong_34 : decode cX12_isSumWrong 34 = .ok (.iload 6, 2) := by decide +kernel
theorem dX12_isSumWrong_36 : decode cX12_isSumWrong 36 = .ok (.iload 5, 2) := by decide +kernel
theorem dX12_isSumWrong_38 : decode cX12_isSumWrong 38 = .ok (.if_icmp .gt 103, 3) := by decide +kernel
theorem dX12_isSumWrong_41 : decode cX12_isSumWrong 41 = .ok (.aload_n 0, 1) := by decide +kernel
theorem dX12_isSumWrong_42 : decode cX12_isSumWrong 42 = .ok (.getfield 42, 3) := by decide +kernel
theorem dX12_isSumWrong_45 : decode cX12_isSumWrong 45 = .ok (.bipush 40, 2) := by decide +kernel
theorem dX12_isSumWrong_47 : decode cX12_isSumWrong 47 = .ok (.iload 4, 2) := by decide +kernel
theorem dX12_isSumWrong_49 : decode cX12_isSumWrong 49 = .ok (.imul, 1) := by decide +kernel
theorem dX12_isSumWrong_50 : decode cX12_isSumWrong 50 = .ok (.iload 6, 2) := by decide +kernel
theorem dX12_isSumWrong_52 : decode cX12_isSumWrong 52 = .ok (.iadd, 1) := by decide +kernel
theorem dX12_isSumWrong_53 : decode cX12_isSumWrong 53 = .ok (.iaload, 1) := by decide +kernel
theorem dX12_isSumWrong_54 : decode cX12_isSumWrong 54 = .ok (.istore 7, 2) := by decide +kernel
theorem dX12_isSumWrong_56 : decode cX12_isSumWrong 56 = .ok (.aload_n 0, 1) := by decide +kernel
theorem dX12_isSumWrong_57 : decode cX12_isSumWrong 57 = .ok (.iload 7, 2) := by decide +kernel
theorem dX12_isSumWrong_59 : decode cX12_isSumWrong 59 = .ok (.invokevirtual 235, 3) := by decide +kernel
theorem dX12_isSumWrong_62 : decode cX12_isSumWrong 62 = .ok (.lstore 8, 2) := by decide +kernel
theorem dX12_isSumWrong_64 : decode cX12_isSumWrong 64 = .ok (.iconst 0, 1) := by decide +kernel
theorem dX12_isSumWrong_65 : decode cX12_isSumWrong 65 = .ok (.istore 10, 2) := by decide +kernel
theorem dX12_isSumWrong_67 : decode cX12_isSumWrong 67 = .ok (.iload 10, 2) := by decide +kernel
theorem dX12_isSumWrong_69 : decode cX12_isSumWrong 69 = .ok (.aload_n 0, 1) := by decide +kernel
theorem dX12_isSumWrong_70 : decode cX12_isSumWrong 70 = .ok (.getfield 199, 3) := by decide +kernel
theorem dX12_isSumWrong_73 : decode cX12_isSumWrong 73 = .ok (.if_icmp .ge 57, 3) := by decide +kernel
theorem dX12_isSumWrong_76 : decode cX12_isSumWrong 76 = .ok (.aload_n 0, 1) := by decide +kernel
theorem dX12_isSumWrong_77 : decode cX12_isSumWrong 77 = .ok (.iload 10, 2) := by decide +kernel
theorem dX12_isSumWrong_79 : decode cX12_isSumWrong 79 = .ok (.iload_n 1, 1) := by decide +kernel
theorem dX12_isSumWrong_80 : decode cX12_isSumWrong 80 = .ok (.invokevirtual 280, 3) := by decide +kernel
theorem dX12_isSumWrong_83 : decode cX12_isSumWrong 83 = .ok (.ifCond .eq 37, 3) := by decide +kernel
theorem dX12_isSumWrong_86 : decode cX12_isSumWrong 86 = .ok (.aload_n 0, 1) := by decide +kernel
theorem dX12_isSumWrong_87 : decode cX12_isSumWrong 87 = .ok (.iload 7, 2) := by decide +kernel
theorem dX12_isSumWrong_89 : decode cX12_isSumWrong 89 = .ok (.iload 10, 2) := by decide +kernel
theorem dX12_isSumWrong_91 : decode cX12_isSumWrong 91 = .ok (.invokevirtual 239, 3) := by decide +kernel
theorem dX12_isSumWrong_94 : decode cX12_isSumWrong 94 = .ok (.ifCond .eq 26, 3) := by decide +kernel
theorem dX12_isSumWrong_97 : decode cX12_isSumWrong 97 = .ok (.lload 8, 2) := by decide +kernel
theorem dX12_isSumWrong_99 : decode cX12_isSumWrong 99 = .ok (.aload_n 0, 1) := by decide +kernel
theorem dX12_isSumWrong_100 : decode cX12_isSumWrong 100 = .ok (.getfield 60, 3) := by decide +kernel
theorem dX12_isSumWrong_103 : decode cX12_isSumWrong 103 = .ok (.iload 10, 2) := by decide +kernel
theorem dX12_isSumWrong_105 : decode cX12_isSumWrong 105 = .ok (.iaload, 1) := by decide +kernel
theorem dX12_isSumWrong_106 : decode cX12_isSumWrong 106 = .ok (.i2l, 1) := by decide +kernel
theorem dX12_isSumWrong_107 : decode cX12_isSumWrong 107 = .ok (.ldiv, 1) := by decide +kernel
theorem dX12_isSumWrong_108 : decode cX12_isSumWrong 108 = .ok (.aload_n 0, 1) := by decide +kernel
theorem dX12_isSumWrong_109 : decode cX12_isSumWrong 109 = .ok (.getfield 63, 3) := by decide +kernel
theorem dX12_isSumWrong_112 : decode cX12_isSumWrong 112 = .ok (.iload 10, 2) := by decide +kernel
theorem dX12_isSumWrong_114 : decode cX12_isSumWrong 114 = .ok (.iaload, 1) := by decide +kernel
theorem dX12_isSumWrong_115 : decode cX12_isSumWrong 115 = .ok (.i2l, 1) := by decide +kernel
theorem dX12_isSumWrong_116 : decode cX12_isSumWrong 116 = .ok (.lmul, 1) := by decide +kernel
theorem dX12_isSumWrong_117 : decode cX12_isSumWrong 117 = .ok (.goto 5, 3) := by decide +kernel
theorem dX12_isSumWrong_120 : decode cX12_isSumWrong 120 = .ok (.lload 8, 2) := by decide +kernel
theorem dX12_isSumWrong_122 : decode cX12_isSumWrong 122 = .ok (.lstore 8, 2) := by decide +kernel
theorem dX12_isSumWrong_124 : decode cX12_isSumWrong 124 = .ok (.iinc 10 1, 3) := by decide +kernel
theorem dX12_isSumWrong_127 : decode cX12_isSumWrong 127 = .ok (.goto (-60), 3) := by decide +kernel
theorem dX12_isSumWrong_130 : decode cX12_isSumWrong 130 = .ok (.lload_n 2, 1) := by decide +kernel
theorem dX12_isSumWrong_131 : decode cX12_isSumWrong 131 = .ok (.lload 8, 2) := by decide +kernel
theorem dX12_isSumWrong_133 : decode cX12_isSumWrong 133 = .ok (.ladd, 1) := by decide +kernel
theorem dX12_isSumWrong_134 : decode cX12_isSumWrong 134 = .ok (.lstore_n 2, 1) := by decide +kernel
theorem dX12_isSumWrong_135 : decode cX12_isSumWrong 135 = .ok (.iinc 6 1, 3) := by decide +kernel
theorem dX12_isSumWrong_138 : decode cX12_isSumWrong 138 = .ok (.goto (-104), 3) := by decide +kernel
theorem dX12_isSumWrong_141 : decode cX12_isSumWrong 141 = .ok (.lload_n 2, 1) := by decide +kernel
theorem dX12_isSumWrong_142 : decode cX12_isSumWrong 142 = .ok (.ldc2_w 154, 3) := by decide +kernel
theorem dX12_isSumWrong_145 : decode cX12_isSumWrong 145 = .ok (.aload_n 0, 1) := by decide +kernel
theorem dX12_isSumWrong_146 : decode cX12_isSumWrong 146 = .ok (.getfield 66, 3) := by decide +kernel
theorem dX12_isSumWrong_149 : decode cX12_isSumWrong 149 = .ok (.iload_n 1, 1) := by decide +kernel
theorem dX12_isSumWrong_150 : decode cX12_isSumWrong 150 = .ok (.iaload, 1) := by decide +kernel
theorem dX12_isSumWrong_151 : decode cX12_isSumWrong 151 = .ok (.lshr, 1) := by decide +kernel
theorem dX12_isSumWrong_152 : decode cX12_isSumWrong 152 = .ok (.aload_n 0, 1) := by decide +kernel
theorem dX12_isSumWrong_153 : decode cX12_isSumWrong 153 = .ok (.getfield 60, 3) := by decide +kernel
theorem dX12_isSumWrong_156 : decode cX12_isSumWrong 156 = .ok (.iload_n 1, 1) := by decide +kernel
theorem dX12_isSumWrong_157 : decode cX12_isSumWrong 157 = .ok (.iaload, 1) := by decide +kernel
theorem dX12_isSumWrong_158 : decode cX12_isSumWrong 158 = .ok (.i2l, 1) := by decide +kernel
theorem dX12_isSumWrong_159 : decode cX12_isSumWrong 159 = .ok (.lmul, 1) := by decide +kernel
theorem dX12_isSumWrong_160 : decode cX12_isSumWrong 160 = .ok (.lcmp, 1) := by decide +kernel
theorem dX12_isSumWrong_161 : decode cX12_isSumWrong 161 = .ok (.ifCond .eq 7, 3) := by decide +kernel
theorem dX12_isSumWrong_164 : decode cX12_isSumWrong 164 = .ok (.iconst 1, 1) := by decide +kernel
theorem dX12_isSumWrong_165 : decode cX12_isSumWrong 165 = .ok (.goto 4, 3) := by decide +kernel
theorem dX12_isSumWrong_168 : decode cX12_isSumWrong 168 = .ok (.iconst 0, 1) := by decide +kernel
theorem dX12_isSumWrong_169 : decode cX12_isSumWrong 169 = .ok (.ireturn, 1) := by decide +kernel
theorem dX12_check_0 : decode cX12_check 0 = .ok (.aload_n 0, 1) := by decide +kernel
theorem dX12_check_1 : decode cX12_check 1 = .ok (.invokevirtual 144, 3) := by decide +kernel
theorem dX12_check_4 : decode cX12_check 4 = .ok (.aload_n 0, 1) := by decide +kernel
theorem dX12_check_5 : decode cX12_check 5 = .ok (.iconst 0, 1) := by decide +kernel
theorem dX12_check_6 : decode cX12_check 6 = .ok (.putfield 289, 3) := by decide +kernel
theorem dX12_check_9 : decode cX12_check 9 = .ok (.aload_n 0, 1) := by decide +kernel
theorem dX12_check_10 : decode cX12_check 10 = .ok (.aload_n 0, 1) := by decide +kernel
theorem dX12_check_11 : decode cX12_check 11 = .ok (.getfield 151, 3) := by decide +kernel
theorem dX12_check_14 : decode cX12_check 14 = .ok (.invokevirtual 246, 3) := by decide +kernel
theorem dX12_check_17 : decode cX12_check 17 = .ok (.lstore_n 1, 1) := by decide +kernel
theorem dX12_check_18 : decode cX12_check 18 = .ok (.iconst 0, 1) := by decide +kernel
theorem dX12_check_19 : decode cX12_check 19 = .ok (.istore_n 3, 1) := by decide +kernel
theorem dX12_check_20 : decode cX12_check 20 = .ok (.iload_n 3, 1) := by decide +kernel
theorem dX12_check_21 : decode cX12_check 21 = .ok (.iconst 3, 1) := by decide +kernel
theorem dX12_check_22 : decode cX12_check 22 = .ok (.aload_n 0, 1) := by decide +kernel
theorem dX12_check_23 : decode cX12_check 23 = .ok (.getfield 134, 3) := by decide +kernel
theorem dX12_check_26 : decode cX12_check 26 = .ok (.imul, 1) := by decide +kernel
theorem dX12_check_27 : decode cX12_check 27 = .ok (.if_icmp .ge 15, 3) := by decide +kernel
theorem dX12_check_30 : decode cX12_check 30 = .ok (.aload_n 0, 1) := by decide +kernel
theorem dX12_check_31 : decode cX12_check 31 = .ok (.iload_n 3, 1) := by decide +kernel
theorem dX12_check_32 : decode cX12_check 32 = .ok (.lload_n 1, 1) := by decide +kernel
theorem dX12_check_33 : decode cX12_check 33 = .ok (.invokevirtual 305, 3) := by decide +kernel
theorem dX12_check_36 : decode cX12_check 36 = .ok (.iinc 3 1, 3) := by decide +kernel
theorem dX12_check_39 : decode cX12_check 39 = .ok (.goto (-19), 3) := by decide +kernel
theorem dX12_check_42 : decode cX12_check 42 = .ok (.iconst 0, 1) := by decide +kernel
theorem dX12_check_43 : decode cX12_check 43 = .ok (.istore_n 3, 1) := by decide +kernel
theorem dX12_check_44 : decode cX12_check 44 = .ok (.iload_n 3, 1) := by decide +kernel
theorem dX12_check_45 : decode cX12_check 45 = .ok (.aload_n 0, 1) := by decide +kernel
theorem dX12_check_46 : decode cX12_check 46 = .ok (.getfield 199, 3) := by decide +kernel
theorem dX12_check_49 : decode cX12_check 49 = .ok (.if_icmp .ge 33, 3) := by decide +kernel
theorem dX12_check_52 : decode cX12_check 52 = .ok (.aload_n 0, 1) := by decide +kernel
theorem dX12_check_53 : decode cX12_check 53 = .ok (.getfield 48, 3) := by decide +kernel
theorem dX12_check_56 : decode cX12_check 56 = .ok (.iload_n 3, 1) := by decide +kernel
theorem dX12_check_57 : decode cX12_check 57 = .ok (.baload, 1) := by decide +kernel
theorem dX12_check_58 : decode cX12_check 58 = .ok (.ifCond .eq 18, 3) := by decide +kernel
theorem dX12_check_61 : decode cX12_check 61 = .ok (.aload_n 0, 1) := by decide +kernel
theorem dX12_check_62 : decode cX12_check 62 = .ok (.iload_n 3, 1) := by decide +kernel
theorem dX12_check_63 : decode cX12_check 63 = .ok (.invokevirtual 309, 3) := by decide +kernel
theorem dX12_check_66 : decode cX12_check 66 = .ok (.ifCond .eq 10, 3) := by decide +kernel
theorem dX12_check_69 : decode cX12_check 69 = .ok (.aload_n 0, 1) := by decide +kernel
theorem dX12_check_70 : decode cX12_check 70 = .ok (.iconst 5, 1) := by decide +kernel
theorem dX12_check_71 : decode cX12_check 71 = .ok (.iload_n 3, 1) := by decide +kernel
theorem dX12_check_72 : decode cX12_check 72 = .ok (.iconst (-1), 1) := by decide +kernel
theorem dX12_check_73 : decode cX12_check 73 = .ok (.invokevirtual 295, 3) := by decide +kernel
theorem dX12_check_76 : decode cX12_check 76 = .ok (.iinc 3 1, 3) := by decide +kernel
theorem dX12_check_79 : decode cX12_check 79 = .ok (.goto (-35), 3) := by decide +kernel
theorem dX12_check_82 : decode cX12_check 82 = .ok (.iconst 0, 1) := by decide +kernel
theorem dX12_check_83 : decode cX12_check 83 = .ok (.istore_n 3, 1) := by decide +kernel
theorem dX12_check_84 : decode cX12_check 84 = .ok (.iload_n 3, 1) := by decide +kernel
theorem dX12_check_85 : decode cX12_check 85 = .ok (.aload_n 0, 1) := by decide +kernel
theorem dX12_check_86 : decode cX12_check 86 = .ok (.getfield 205, 3) := by decide +kernel
theorem dX12_check_89 : decode cX12_check 89 = .ok (.if_icmp .ge 80, 3) := by decide +kernel
theorem dX12_check_92 : decode cX12_check 92 = .ok (.aload_n 0, 1) := by decide +kernel
theorem dX12_check_93 : decode cX12_check 93 = .ok (.getfield 69, 3) := by decide +kernel
theorem dX12_check_96 : decode cX12_check 96 = .ok (.iload_n 3, 1) := by decide +kernel
theorem dX12_check_97 : decode cX12_check 97 = .ok (.baload, 1) := by decide +kernel
theorem dX12_check_98 : decode cX12_check 98 = .ok (.ifCond .eq 24, 3) := by decide +kernel
theorem dX12_check_101 : decode cX12_check 101 = .ok (.aload_n 0, 1) := by decide +kernel
theorem dX12_check_102 : decode cX12_check 102 = .ok (.getfield 78, 3) := by decide +kernel
theorem dX12_check_105 : decode cX12_check 105 = .ok (.iload_n 3, 1) := by decide +kernel
theorem dX12_check_106 : decode cX12_check 106 = .ok (.iaload, 1) := by decide +kernel
theorem dX12_check_107 : decode cX12_check 107 = .ok (.iconst (-1), 1) := by decide +kernel
theorem dX12_check_108 : decode cX12_check 108 = .ok (.if_icmp .ne 14, 3) := by decide +kernel
theorem dX12_check_111 : decode cX12_check 111 = .ok (.aload_n 0, 1) := by decide +kernel
theorem dX12_check_112 : decode cX12_check 112 = .ok (.bipush 6, 2) := by decide +kernel
theorem dX12_check_114 : decode cX12_check 114 = .ok (.iload_n 3, 1) := by decide +kernel
theorem dX12_check_115 : decode cX12_check 115 = .ok (.iconst (-1), 1) := by decide +kernel
theorem dX12_check_116 : decode cX12_check 116 = .ok (.invokevirtual 295, 3) := by decide +kernel
theorem dX12_check_119 : decode cX12_check 119 = .ok (.goto 44, 3) := by decide +kernel
theorem dX12_check_122 : decode cX12_check 122 = .ok (.aload_n 0, 1) := by decide +kernel
theorem dX12_check_123 : decode cX12_check 123 = .ok (.getfield 69, 3) := by decide +kernel
theorem dX12_check_126 : decode cX12_check 126 = .ok (.iload_n 3, 1) := by decide +kernel
theorem dX12_check_127 : decode cX12_check 127 = .ok (.baload, 1) := by decide +kernel
theorem dX12_check_128 : decode cX12_check 128 = .ok (.ifCond .eq 35, 3) := by decide +kernel
theorem dX12_check_131 : decode cX12_check 131 = .ok (.aload_n 0, 1) := by decide +kernel
theorem dX12_check_132 : decode cX12_check 132 = .ok (.aload_n 0, 1) := by decide +kernel
theorem dX12_check_133 : decode cX12_check 133 = .ok (.getfield 78, 3) := by decide +kernel
theorem dX12_check_136 : decode cX12_check 136 = .ok (.iload_n 3, 1) := by decide +kernel
theorem dX12_check_137 : decode cX12_check 137 = .ok (.iaload, 1) := by decide +kernel
theorem dX12_check_138 : decode cX12_check 138 = .ok (.invokevirtual 258, 3) := by decide +kernel
theorem dX12_check_141 : decode cX12_check 141 = .ok (.aload_n 0, 1) := by decide +kernel
theorem dX12_check_142 : decode cX12_check 142 = .ok (.aload_n 0, 1) := by decide +kernel
theorem dX12_check_143 : decode cX12_check 143 = .ok (.getfield 75, 3) := by decide +kernel
theorem dX12_check_146 : decode cX12_check 146 = .ok (.iload_n 3, 1) := by decide +kernel
theorem dX12_check_147 : decode cX12_check 147 = .ok (.iaload, 1) := by decide +kernel
theorem dX12_check_148 : decode cX12_check 148 = .ok (.invokevirtual 258, 3) := by decide +kernel
theorem dX12_check_151 : decode cX12_check 151 = .ok (.lcmp, 1) := by decide +kernel
theorem dX12_check_152 : decode cX12_check 152 = .ok (.ifCond .ge 11, 3) := by decide +kernel
theorem dX12_check_155 : decode cX12_check 155 = .ok (.aload_n 0, 1) := by decide +kernel
theorem dX12_check_156 : decode cX12_check 156 = .ok (.bipush 7, 2) := by decide +kernel
theorem dX12_check_158 : decode cX12_check 158 = .ok (.iload_n 3, 1) := by decide +kernel
theorem dX12_check_159 : decode cX12_check 159 = .ok (.iconst (-1), 1) := by decide +kernel
theorem dX12_check_160 : decode cX12_check 160 = .ok (.invokevirtual 295, 3) := by decide +kernel
theorem dX12_check_163 : decode cX12_check 163 = .ok (.iinc 3 1, 3) := by decide +kernel
theorem dX12_check_166 : decode cX12_check 166 = .ok (.goto (-82), 3) := by decide +kernel
theorem dX12_check_169 : decode cX12_check 169 = .ok (.aload_n 0, 1) := by decide +kernel
theorem dX12_check_170 : decode cX12_check 170 = .ok (.getfield 289, 3) := by decide +kernel
theorem dX12_check_173 : decode cX12_check 173 = .ok (.ireturn, 1) := by decide +kernel
theorem dX12_finding_0 : decode cX12_finding 0 = .ok (.aload_n 0, 1) := by decide +kernel
theorem dX12_finding_1 : decode cX12_finding 1 = .ok (.invokevirtual 144, 3) := by decide +kernel
theorem dX12_finding_4 : decode cX12_finding 4 = .ok (.iload_n 2, 1) := by decide +kernel
theorem dX12_finding_5 : decode cX12_finding 5 = .ok (.i2l, 1) := by decide +kernel
theorem dX12_finding_6 : decode cX12_finding 6 = .ok (.lconst 0, 1) := by decide +kernel
theorem dX12_finding_7 : decode cX12_finding 7 = .ok (.ldc2_w 170, 3) := by decide +kernel
theorem dX12_finding_10 : decode cX12_finding 10 = .ok (.invokestatic 137, 3) := by decide +kernel
theorem dX12_finding_13 : decode cX12_finding 13 = .ok (.ifCond .ne 10, 3) := by decide +kernel
theorem dX12_finding_16 : decode cX12_finding 16 = .ok (.aload_n 0, 1) := by decide +kernel
theorem dX12_finding_17 : decode cX12_finding 17 = .ok (.bipush (-2), 2) := by decide +kernel
theorem dX12_finding_19 : decode cX12_finding 19 = .ok (.invokevirtual 130, 3) := by decide +kernel
theorem dX12_finding_22 : decode cX12_finding 22 = .ok (.ireturn, 1) := by decide +kernel
theorem dX12_finding_23 : decode cX12_finding 23 = .ok (.iload_n 1, 1) := by decide +kernel
theorem dX12_finding_24 : decode cX12_finding 24 = .ok (.i2l, 1) := by decide +kernel
theorem dX12_finding_25 : decode cX12_finding 25 = .ok (.lconst 0, 1) := by decide +kernel
theorem dX12_finding_26 : decode cX12_finding 26 = .ok (.aload_n 0, 1) := by decide +kernel
theorem dX12_finding_27 : decode cX12_finding 27 = .ok (.getfield 289, 3) := by decide +kernel
theorem dX12_finding_30 : decode cX12_finding 30 = .ok (.bipush 100, 2) := by decide +kernel
theorem dX12_finding_32 : decode cX12_finding 32 = .ok (.if_icmp .ge 10, 3) := by decide +kernel
theorem dX12_finding_35 : decode cX12_finding 35 = .ok (.aload_n 0, 1) := by decide +kernel
theorem dX12_finding_36 : decode cX12_finding 36 = .ok (.getfield 289, 3) := by decide +kernel
theorem dX12_finding_39 : decode cX12_finding 39 = .ok (.goto 5, 3) := by decide +kernel
theorem dX12_finding_42 : decode cX12_finding 42 = .ok (.bipush 100, 2) := by decide +kernel
theorem dX12_finding_44 : decode cX12_finding 44 = .ok (.iconst 1, 1) := by decide +kernel
theorem dX12_finding_45 : decode cX12_finding 45 = .ok (.isub, 1) := by decide +kernel
theorem dX12_finding_46 : decode cX12_finding 46 = .ok (.i2l, 1) := by decide +kernel
theorem dX12_finding_47 : decode cX12_finding 47 = .ok (.invokestatic 137, 3) := by decide +kernel
theorem dX12_finding_50 : decode cX12_finding 50 = .ok (.ifCond .eq 16, 3) := by decide +kernel
theorem dX12_finding_53 : decode cX12_finding 53 = .ok (.aload_n 0, 1) := by decide +kernel
theorem dX12_finding_54 : decode cX12_finding 54 = .ok (.getfield 84, 3) := by decide +kernel
theorem dX12_finding_57 : decode cX12_finding 57 = .ok (.iconst 3, 1) := by decide +kernel
theorem dX12_finding_58 : decode cX12_finding 58 = .ok (.iload_n 1, 1) := by decide +kernel
theorem dX12_finding_59 : decode cX12_finding 59 = .ok (.imul, 1) := by decide +kernel
theorem dX12_finding_60 : decode cX12_finding 60 = .ok (.iload_n 2, 1) := by decide +kernel
theorem dX12_finding_61 : decode cX12_finding 61 = .ok (.iadd, 1) := by decide +kernel
theorem dX12_finding_62 : decode cX12_finding 62 = .ok (.iaload, 1) := by decide +kernel
theorem dX12_finding_63 : decode cX12_finding 63 = .ok (.goto 4, 3) := by decide +kernel
theorem dX12_finding_66 : decode cX12_finding 66 = .ok (.iconst (-1), 1) := by decide +kernel
theorem dX12_finding_67 : decode cX12_finding 67 = .ok (.ireturn, 1) := by decide +kernel
theorem dX12_nextOf_0 : decode cX12_nextOf 0 = .ok (.iload_n 2, 1) := by decide +kernel
theorem dX12_nextOf_1 : decode cX12_nextOf 1 = .ok (.iconst 1, 1) := by decide +kernel
theorem dX12_nextOf_2 : decode cX12_nextOf 2 = .ok (.iadd, 1) := by decide +kernel
theorem dX12_nextOf_3 : decode cX12_nextOf 3 = .ok (.istore_n 3, 1) := by decide +kernel
theorem dX12_nextOf_4 : decode cX12_nextOf 4 = .ok (.iload_n 3, 1) := by decide +kernel
theorem dX12_nextOf_5 : decode cX12_nextOf 5 = .ok (.aload_n 0, 1) := by decide +kernel
theorem dX12_nextOf_6 : decode cX12_nextOf 6 = .ok (.getfield 199, 3) := by decide +kernel
theorem dX12_nextOf_9 : decode cX12_nextOf 9 = .ok (.if_icmp .ge 28, 3) := by decide +kernel
theorem dX12_nextOf_12 : decode cX12_nextOf 12 = .ok (.aload_n 0, 1) := by decide +kernel
theorem dX12_nextOf_13 : decode cX12_nextOf 13 = .ok (.getfield 48, 3) := by decide +kernel
theorem dX12_nextOf_16 : decode cX12_nextOf 16 = .ok (.iload_n 3, 1) := by decide +kernel
theorem dX12_nextOf_17 : decode cX12_nextOf 17 = .ok (.baload, 1) := by decide +kernel
theorem dX12_nextOf_18 : decode cX12_nextOf 18 = .ok (.ifCond .eq 13, 3) := by decide +kernel
theorem dX12_nextOf_21 : decode cX12_nextOf 21 = .ok (.aload_n 0, 1) := by decide +kernel
theorem dX12_nextOf_22 : decode cX12_nextOf 22 = .ok (.getfield 51, 3) := by decide +kernel
theorem dX12_nextOf_25 : decode cX12_nextOf 25 = .ok (.iload_n 3, 1) := by decide +kernel
theorem dX12_nextOf_26 : decode cX12_nextOf 26 = .ok (.iaload, 1) := by decide +kernel
theorem dX12_nextOf_27 : decode cX12_nextOf 27 = .ok (.iload_n 1, 1) := by decide +kernel
theorem dX12_nextOf_28 : decode cX12_nextOf 28 = .ok (.if_icmp .eq 9, 3) := by decide +kernel
theorem dX12_nextOf_31 : decode cX12_nextOf 31 = .ok (.iinc 3 1, 3) := by decide +kernel
theorem dX12_nextOf_34 : decode cX12_nextOf 34 = .ok (.goto (-30), 3) := by decide +kernel
theorem dX12_nextOf_37 : decode cX12_nextOf 37 = .ok (.iload_n 3, 1) := by decide +kernel
theorem dX12_nextOf_38 : decode cX12_nextOf 38 = .ok (.aload_n 0, 1) := by decide +kernel
theorem dX12_nextOf_39 : decode cX12_nextOf 39 = .ok (.getfield 199, 3) := by decide +kernel
theorem dX12_nextOf_42 : decode cX12_nextOf 42 = .ok (.if_icmp .ge 7, 3) := by decide +kernel
theorem dX12_nextOf_45 : decode cX12_nextOf 45 = .ok (.iload_n 3, 1) := by decide +kernel
theorem dX12_nextOf_46 : decode cX12_nextOf 46 = .ok (.goto 4, 3) := by decide +kernel
theorem dX12_nextOf_49 : decode cX12_nextOf 49 = .ok (.iconst (-1), 1) := by decide +kernel
theorem dX12_nextOf_50 : decode cX12_nextOf 50 = .ok (.ireturn, 1) := by decide +kernel
theorem dX12_areAlike_0 : decode cX12_areAlike 0 = .ok (.aload_n 0, 1) := by decide +kernel
theorem dX12_areAlike_1 : decode cX12_areAlike 1 = .ok (.getfield 24, 3) := by decide +kernel
theorem dX12_areAlike_4 : decode cX12_areAlike 4 = .ok (.iload_n 1, 1) := by decide +kernel
theorem dX12_areAlike_5 : decode cX12_areAlike 5 = .ok (.iaload, 1) := by decide +kernel
theorem dX12_areAlike_6 : decode cX12_areAlike 6 = .ok (.aload_n 0, 1) := by decide +kernel
theorem dX12_areAlike_7 : decode cX12_areAlike 7 = .ok (.getfield 24, 3) := by decide +kernel
theorem dX12_areAlike_10 : decode cX12_areAlike 10 = .ok (.iload_n 2, 1) := by decide +kernel
theorem dX12_areAlike_11 : decode cX12_areAlike 11 = .ok (.iaload, 1) := by decide +kernel
theorem dX12_areAlike_12 : decode cX12_areAlike 12 = .ok (.if_icmp .ne 67, 3) := by decide +kernel
theorem dX12_areAlike_15 : decode cX12_areAlike 15 = .ok (.aload_n 0, 1) := by decide +kernel
theorem dX12_areAlike_16 : decode cX12_areAlike 16 = .ok (.getfield 27, 3) := by decide +kernel
theorem dX12_areAlike_19 : decode cX12_areAlike 19 = .ok (.iload_n 1, 1) := by decide +kernel
theorem dX12_areAlike_20 : decode cX12_areAlike 20 = .ok (.iaload, 1) := by decide +kernel
theorem dX12_areAlike_21 : decode cX12_areAlike 21 = .ok (.aload_n 0, 1) := by decide +kernel
theorem dX12_areAlike_22 : decode cX12_areAlike 22 = .ok (.getfield 27, 3) := by decide +kernel
theorem dX12_areAlike_25 : decode cX12_areAlike 25 = .ok (.iload_n 2, 1) := by decide +kernel
theorem dX12_areAlike_26 : decode cX12_areAlike 26 = .ok (.iaload, 1) := by decide +kernel
theorem dX12_areAlike_27 : decode cX12_areAlike 27 = .ok (.if_icmp .ne 52, 3) := by decide +kernel
theorem dX12_areAlike_30 : decode cX12_areAlike 30 = .ok (.aload_n 0, 1) := by decide +kernel
theorem dX12_areAlike_31 : decode cX12_areAlike 31 = .ok (.getfield 33, 3) := by decide +kernel
theorem dX12_areAlike_34 : decode cX12_areAlike 34 = .ok (.iload_n 1, 1) := by decide +kernel
theorem dX12_areAlike_35 : decode cX12_areAlike 35 = .ok (.iaload, 1) := by decide +kernel
theorem dX12_areAlike_36 : decode cX12_areAlike 36 = .ok (.aload_n 0, 1) := by decide +kernel
theorem dX12_areAlike_37 : decode cX12_areAlike 37 = .ok (.getfield 33, 3) := by decide +kernel
theorem dX12_areAlike_40 : decode cX12_areAlike 40 = .ok (.iload_n 2, 1) := by decide +kernel
theorem dX12_areAlike_41 : decode cX12_areAlike 41 = .ok (.iaload, 1) := by decide +kernel
theorem dX12_areAlike_42 : decode cX12_areAlike 42 = .ok (.if_icmp .ne 37, 3) := by decide +kernel
theorem dX12_areAlike_45 : decode cX12_areAlike 45 = .ok (.aload_n 0, 1) := by decide +kernel
theorem dX12_areAlike_46 : decode cX12_areAlike 46 = .ok (.getfield 36, 3) := by decide +kernel
theorem dX12_areAlike_49 : decode cX12_areAlike 49 = .ok (.iload_n 1, 1) := by decide +kernel
theorem dX12_areAlike_50 : decode cX12_areAlike 50 = .ok (.iaload, 1) := by decide +kernel
theorem dX12_areAlike_51 : decode cX12_areAlike 51 = .ok (.aload_n 0, 1) := by decide +kernel
theorem dX12_areAlike_52 : decode cX12_areAlike 52 = .ok (.getfield 36, 3) := by decide +kernel
theorem dX12_areAlike_55 : decode cX12_areAlike 55 = .ok (.iload_n 2, 1) := by decide +kernel
theorem dX12_areAlike_56 : decode cX12_areAlike 56 = .ok (.iaload, 1) := by decide +kernel
theorem dX12_areAlike_57 : decode cX12_areAlike 57 = .ok (.if_icmp .ne 22, 3) := by decide +kernel
theorem dX12_areAlike_60 : decode cX12_areAlike 60 = .ok (.aload_n 0, 1) := by decide +kernel
theorem dX12_areAlike_61 : decode cX12_areAlike 61 = .ok (.getfield 39, 3) := by decide +kernel
theorem dX12_areAlike_64 : decode cX12_areAlike 64 = .ok (.iload_n 1, 1) := by decide +kernel
theorem dX12_areAlike_65 : decode cX12_areAlike 65 = .ok (.baload, 1) := by decide +kernel
theorem dX12_areAlike_66 : decode cX12_areAlike 66 = .ok (.aload_n 0, 1) := by decide +kernel
theorem dX12_areAlike_67 : decode cX12_areAlike 67 = .ok (.getfield 39, 3) := by decide +kernel
theorem dX12_areAlike_70 : decode cX12_areAlike 70 = .ok (.iload_n 2, 1) := by decide +kernel
theorem dX12_areAlike_71 : decode cX12_areAlike 71 = .ok (.baload, 1) := by decide +kernel
theorem dX12_areAlike_72 : decode cX12_areAlike 72 = .ok (.if_icmp .ne 7, 3) := by decide +kernel
theorem dX12_areAlike_75 : decode cX12_areAlike 75 = .ok (.iconst 1, 1) := by decide +kernel
theorem dX12_areAlike_76 : decode cX12_areAlike 76 = .ok (.goto 4, 3) := by decide +kernel
theorem dX12_areAlike_79 : decode cX12_areAlike 79 = .ok (.iconst 0, 1) := by decide +kernel
theorem dX12_areAlike_80 : decode cX12_areAlike 80 = .ok (.istore_n 3, 1) := by decide +kernel
theorem dX12_areAlike_81 : decode cX12_areAlike 81 = .ok (.iconst 0, 1) := by decide +kernel
theorem dX12_areAlike_82 : decode cX12_areAlike 82 = .ok (.istore 4, 2) := by decide +kernel
theorem dX12_areAlike_84 : decode cX12_areAlike 84 = .ok (.iload 4, 2) := by decide +kernel
theorem dX12_areAlike_86 : decode cX12_areAlike 86 = .ok (.aload_n 0, 1) := by decide +kernel
theorem dX12_areAlike_87 : decode cX12_areAlike 87 = .ok (.getfield 27, 3) := by decide +kernel
theorem dX12_areAlike_90 : decode cX12_areAlike 90 = .ok (.iload_n 1, 1) := by decide +kernel
theorem dX12_areAlike_91 : decode cX12_areAlike 91 = .ok (.iaload, 1) := by decide +kernel
theorem dX12_areAlike_92 : decode cX12_areAlike 92 = .ok (.if_icmp .ge 46, 3) := by decide +kernel
theorem dX12_areAlike_95 : decode cX12_areAlike 95 = .ok (.iload_n 3, 1) := by decide +kernel
theorem dX12_areAlike_96 : decode cX12_areAlike 96 = .ok (.ifCond .eq 42, 3) := by decide +kernel
theorem dX12_areAlike_99 : decode cX12_areAlike 99 = .ok (.aload_n 0, 1) := by decide +kernel
theorem dX12_areAlike_100 : decode cX12_areAlike 100 = .ok (.getfield 30, 3) := by decide +kernel
theorem dX12_areAlike_103 : decode cX12_areAlike 103 = .ok (.bipush 6, 2) := by decide +kernel
theorem dX12_areAlike_105 : decode cX12_areAlike 105 = .ok (.iload_n 1, 1) := by decide +kernel
theorem dX12_areAlike_106 : decode cX12_areAlike 106 = .ok (.imul, 1) := by decide +kernel
theorem dX12_areAlike_107 : decode cX12_areAlike 107 = .ok (.iload 4, 2) := by decide +kernel
theorem dX12_areAlike_109 : decode cX12_areAlike 109 = .ok (.iadd, 1) := by decide +kernel
theorem dX12_areAlike_110 : decode cX12_areAlike 110 = .ok (.iaload, 1) := by decide +kernel
theorem dX12_areAlike_111 : decode cX12_areAlike 111 = .ok (.aload_n 0, 1) := by decide +kernel
theorem dX12_areAlike_112 : decode cX12_areAlike 112 = .ok (.getfield 30, 3) := by decide +kernel
theorem dX12_areAlike_115 : decode cX12_areAlike 115 = .ok (.bipush 6, 2) := by decide +kernel
theorem dX12_areAlike_117 : decode cX12_areAlike 117 = .ok (.iload_n 2, 1) := by decide +kernel
theorem dX12_areAlike_118 : decode cX12_areAlike 118 = .ok (.imul, 1) := by decide +kernel
theorem dX12_areAlike_119 : decode cX12_areAlike 119 = .ok (.iload 4, 2) := by decide +kernel
theorem dX12_areAlike_121 : decode cX12_areAlike 121 = .ok (.iadd, 1) := by decide +kernel
theorem dX12_areAlike_122 : decode cX12_areAlike 122 = .ok (.iaload, 1) := by decide +kernel
theorem dX12_areAlike_123 : decode cX12_areAlike 123 = .ok (.if_icmp .ne 7, 3) := by decide +kernel
theorem dX12_areAlike_126 : decode cX12_areAlike 126 = .ok (.iconst 1, 1) := by decide +kernel
theorem dX12_areAlike_127 : decode cX12_areAlike 127 = .ok (.goto 4, 3) := by decide +kernel
theorem dX12_areAlike_130 : decode cX12_areAlike 130 = .ok (.iconst 0, 1) := by decide +kernel
theorem dX12_areAlike_131 : decode cX12_areAlike 131 = .ok (.istore_n 3, 1) := by decide +kernel
theorem dX12_areAlike_132 : decode cX12_areAlike 132 = .ok (.iinc 4 1, 3) := by decide +kernel
theorem dX12_areAlike_135 : decode cX12_areAlike 135 = .ok (.goto (-51), 3) := by decide +kernel
theorem dX12_areAlike_138 : decode cX12_areAlike 138 = .ok (.iload_n 3, 1) := by decide +kernel
theorem dX12_areAlike_139 : decode cX12_areAlike 139 = .ok (.ireturn, 1) := by decide +kernel
theorem dX12_equal_0 : decode cX12_equal 0 = .ok (.aload_n 0, 1) := by decide +kernel
theorem dX12_equal_1 : decode cX12_equal 1 = .ok (.invokevirtual 144, 3) := by decide +kernel
theorem dX12_equal_4 : decode cX12_equal 4 = .ok (.aload_n 0, 1) := by decide +kernel
theorem dX12_equal_5 : decode cX12_equal 5 = .ok (.iload_n 1, 1) := by decide +kernel
theorem dX12_equal_6 : decode cX12_equal 6 = .ok (.invokevirtual 184, 3) := by decide +kernel
theorem dX12_equal_9 : decode cX12_equal 9 = .ok (.ifCond .eq 11, 3) := by decide +kernel
theorem dX12_equal_12 : decode cX12_equal 12 = .ok (.aload_n 0, 1) := by decide +kernel
theorem dX12_equal_13 : decode cX12_equal 13 = .ok (.iload_n 2, 1) := by decide +kernel
theorem dX12_equal_14 : decode cX12_equal 14 = .ok (.invokevirtual 184, 3) := by decide +kernel
theorem dX12_equal_17 : decode cX12_equal 17 = .ok (.ifCond .ne 10, 3) := by decide +kernel
theorem dX12_equal_20 : decode cX12_equal 20 = .ok (.aload_n 0, 1) := by decide +kernel
theorem dX12_equal_21 : decode cX12_equal 21 = .ok (.bipush (-2), 2) := by decide +kernel
theorem dX12_equal_23 : decode cX12_equal 23 = .ok (.invokevirtual 130, 3) := by decide +kernel
theorem dX12_equal_26 : decode cX12_equal 26 = .ok (.ireturn, 1) := by decide +kernel
theorem dX12_equal_27 : decode cX12_equal 27 = .ok (.aload_n 0, 1) := by decide +kernel
theorem dX12_equal_28 : decode cX12_equal 28 = .ok (.getfield 45, 3) := by decide +kernel
theorem dX12_equal_31 : decode cX12_equal 31 = .ok (.iload_n 1, 1) := by decide +kernel
theorem dX12_equal_32 : decode cX12_equal 32 = .ok (.iaload, 1) := by decide +kernel
theorem dX12_equal_33 : decode cX12_equal 33 = .ok (.aload_n 0, 1) := by decide +kernel
theorem dX12_equal_34 : decode cX12_equal 34 = .ok (.getfield 45, 3) := by decide +kernel
theorem dX12_equal_37 : decode cX12_equal 37 = .ok (.iload_n 2, 1) := by decide +kernel
theorem dX12_equal_38 : decode cX12_equal 38 = .ok (.iaload, 1) := by decide +kernel
theorem dX12_equal_39 : decode cX12_equal 39 = .ok (.if_icmp .ne 7, 3) := by decide +kernel
theorem dX12_equal_42 : decode cX12_equal 42 = .ok (.iconst 1, 1) := by decide +kernel
theorem dX12_equal_43 : decode cX12_equal 43 = .ok (.goto 4, 3) := by decide +kernel
theorem dX12_equal_46 : decode cX12_equal 46 = .ok (.iconst 0, 1) := by decide +kernel
theorem dX12_equal_47 : decode cX12_equal 47 = .ok (.istore_n 3, 1) := by decide +kernel
theorem dX12_equal_48 : decode cX12_equal 48 = .ok (.iconst 0, 1) := by decide +kernel
theorem dX12_equal_49 : decode cX12_equal 49 = .ok (.istore 4, 2) := by decide +kernel
theorem dX12_equal_51 : decode cX12_equal 51 = .ok (.iload 4, 2) := by decide +kernel
theorem dX12_equal_53 : decode cX12_equal 53 = .ok (.aload_n 0, 1) := by decide +kernel
theorem dX12_equal_54 : decode cX12_equal 54 = .ok (.getfield 45, 3) := by decide +kernel
theorem dX12_equal_57 : decode cX12_equal 57 = .ok (.iload_n 1, 1) := by decide +kernel
theorem dX12_equal_58 : decode cX12_equal 58 = .ok (.iaload, 1) := by decide +kernel
theorem dX12_equal_59 : decode cX12_equal 59 = .ok (.if_icmp .ge 42, 3) := by decide +kernel
theorem dX12_equal_62 : decode cX12_equal 62 = .ok (.iload_n 3, 1) := by decide +kernel
theorem dX12_equal_63 : decode cX12_equal 63 = .ok (.ifCond .eq 38, 3) := by decide +kernel
theorem dX12_equal_66 : decode cX12_equal 66 = .ok (.aload_n 0, 1) := by decide +kernel
theorem dX12_equal_67 : decode cX12_equal 67 = .ok (.aload_n 0, 1) := by decide +kernel
theorem dX12_equal_68 : decode cX12_equal 68 = .ok (.getfield 42, 3) := by decide +kernel
theorem dX12_equal_71 : decode cX12_equal 71 = .ok (.bipush 40, 2) := by decide +kernel
theorem dX12_equal_73 : decode cX12_equal 73 = .ok (.iload_n 1, 1) := by decide +kernel
theorem dX12_equal_74 : decode cX12_equal 74 = .ok (.imul, 1) := by decide +kernel
theorem dX12_equal_75 : decode cX12_equal 75 = .ok (.iload 4, 2) := by decide +kernel
theorem dX12_equal_77 : decode cX12_equal 77 = .ok (.iadd, 1) := by decide +kernel
theorem dX12_equal_78 : decode cX12_equal 78 = .ok (.iaload, 1) := by decide +kernel
theorem dX12_equal_79 : decode cX12_equal 79 = .ok (.aload_n 0, 1) := by decide +kernel
theorem dX12_equal_80 : decode cX12_equal 80 = .ok (.getfield 42, 3) := by decide +kernel
theorem dX12_equal_83 : decode cX12_equal 83 = .ok (.bipush 40, 2) := by decide +kernel
theorem dX12_equal_85 : decode cX12_equal 85 = .ok (.iload_n 2, 1) := by decide +kernel
theorem dX12_equal_86 : decode cX12_equal 86 = .ok (.imul, 1) := by decide +kernel
theorem dX12_equal_87 : decode cX12_equal 87 = .ok (.iload 4, 2) := by decide +kernel
theorem dX12_equal_89 : decode cX12_equal 89 = .ok (.iadd, 1) := by decide +kernel
theorem dX12_equal_90 : decode cX12_equal 90 = .ok (.iaload, 1) := by decide +kernel
theorem dX12_equal_91 : decode cX12_equal 91 = .ok (.invokevirtual 312, 3) := by decide +kernel
theorem dX12_equal_94 : decode cX12_equal 94 = .ok (.istore_n 3, 1) := by decide +kernel
theorem dX12_equal_95 : decode cX12_equal 95 = .ok (.iinc 4 1, 3) := by decide +kernel
theorem dX12_equal_98 : decode cX12_equal 98 = .ok (.goto (-47), 3) := by decide +kernel
theorem dX12_equal_101 : decode cX12_equal 101 = .ok (.aload_n 0, 1) := by decide +kernel
theorem dX12_equal_102 : decode cX12_equal 102 = .ok (.iload_n 1, 1) := by decide +kernel
theorem dX12_equal_103 : decode cX12_equal 103 = .ok (.iconst (-1), 1) := by decide +kernel
theorem dX12_equal_104 : decode cX12_equal 104 = .ok (.invokevirtual 315, 3) := by decide +kernel
theorem dX12_equal_107 : decode cX12_equal 107 = .ok (.istore 4, 2) := by decide +kernel
theorem dX12_equal_109 : decode cX12_equal 109 = .ok (.aload_n 0, 1) := by decide +kernel
theorem dX12_equal_110 : decode cX12_equal 110 = .ok (.iload_n 2, 1) := by decide +kernel
theorem dX12_equal_111 : decode cX12_equal 111 = .ok (.iconst (-1), 1) := by decide +kernel
theorem dX12_equal_112 : decode cX12_equal 112 = .ok (.invokevirtual 315, 3) := by decide +kernel
theorem dX12_equal_115 : decode cX12_equal 115 = .ok (.istore 5, 2) := by decide +kernel
theorem dX12_equal_117 : decode cX12_equal 117 = .ok (.iload_n 3, 1) := by decide +kernel
theorem dX12_equal_118 : decode cX12_equal 118 = .ok (.ifCond .eq 133, 3) := by decide +kernel
theorem dX12_equal_121 : decode cX12_equal 121 = .ok (.iload 4, 2) := by decide +kernel
theorem dX12_equal_123 : decode cX12_equal 123 = .ok (.iconst (-1), 1) := by decide +kernel
theorem dX12_equal_124 : decode cX12_equal 124 = .ok (.if_icmp .eq 127, 3) := by decide +kernel
theorem dX12_equal_127 : decode cX12_equal 127 = .ok (.iload 5, 2) := by decide +kernel
theorem dX12_equal_129 : decode cX12_equal 129 = .ok (.iconst (-1), 1) := by decide +kernel
theorem dX12_equal_130 : decode cX12_equal 130 = .ok (.if_icmp .eq 121, 3) := by decide +kernel
theorem dX12_equal_133 : decode cX12_equal 133 = .ok (.aload_n 0, 1) := by decide +kernel
theorem dX12_equal_134 : decode cX12_equal 134 = .ok (.aload_n 0, 1) := by decide +kernel
theorem dX12_equal_135 : decode cX12_equal 135 = .ok (.getfield 54, 3) := by decide +kernel
theorem dX12_equal_138 : decode cX12_equal 138 = .ok (.iload 4, 2) := by decide +kernel
theorem dX12_equal_140 : decode cX12_equal 140 = .ok (.iaload, 1) := by decide +kernel
theorem dX12_equal_141 : decode cX12_equal 141 = .ok (.invokevirtual 196, 3) := by decide +kernel
theorem dX12_equal_144 : decode cX12_equal 144 = .ok (.aload_n 0, 1) := by decide +kernel
theorem dX12_equal_145 : decode cX12_equal 145 = .ok (.aload_n 0, 1) := by decide +kernel
theorem dX12_equal_146 : decode cX12_equal 146 = .ok (.getfield 54, 3) := by decide +kernel
theorem dX12_equal_149 : decode cX12_equal 149 = .ok (.iload 5, 2) := by decide +kernel
theorem dX12_equal_151 : decode cX12_equal 151 = .ok (.iaload, 1) := by decide +kernel
theorem dX12_equal_152 : decode cX12_equal 152 = .ok (.invokevirtual 196, 3) := by decide +kernel
theorem dX12_equal_155 : decode cX12_equal 155 = .ok (.if_icmp .ne 73, 3) := by decide +kernel
theorem dX12_equal_158 : decode cX12_equal 158 = .ok (.aload_n 0, 1) := by decide +kernel
theorem dX12_equal_159 : decode cX12_equal 159 = .ok (.iload 4, 2) := by decide +kernel
theorem dX12_equal_161 : decode cX12_equal 161 = .ok (.invokevirtual 275, 3) := by decide +kernel
theorem dX12_equal_164 : decode cX12_equal 164 = .ok (.aload_n 0, 1) := by decide +kernel
theorem dX12_equal_165 : decode cX12_equal 165 = .ok (.iload 5, 2) := by decide +kernel
theorem dX12_equal_167 : decode cX12_equal 167 = .ok (.invokevirtual 275, 3) := by decide +kernel
theorem dX12_equal_170 : decode cX12_equal 170 = .ok (.if_icmp .ne 58, 3) := by decide +kernel
theorem dX12_equal_173 : decode cX12_equal 173 = .ok (.aload_n 0, 1) := by decide +kernel
theorem dX12_equal_174 : decode cX12_equal 174 = .ok (.getfield 60, 3) := by decide +kernel
theorem dX12_equal_177 : decode cX12_equal 177 = .ok (.iload 4, 2) := by decide +kernel
theorem dX12_equal_179 : decode cX12_equal 179 = .ok (.iaload, 1) := by decide +kernel
theorem dX12_equal_180 : decode cX12_equal 180 = .ok (.aload_n 0, 1) := by decide +kernel
