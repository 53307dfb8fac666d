theorem dX12_equal_181 : decode cX12_equal 181 = .ok (.getfield 60, 3) := by decide +kernel
theorem dX12_equal_184 : decode cX12_equal 184 = .ok (.iload 5, 2) := by decide +kernel
theorem dX12_equal_186 : decode cX12_equal 186 = .ok (.iaload, 1) := by decide +kernel
theorem dX12_equal_187 : decode cX12_equal 187 = .ok (.if_icmp .ne 41, 3) := by decide +kernel
theorem dX12_equal_190 : decode cX12_equal 190 = .ok (.aload_n 0, 1) := by decide +kernel
theorem dX12_equal_191 : decode cX12_equal 191 = .ok (.getfield 63, 3) := by decide +kernel
theorem dX12_equal_194 : decode cX12_equal 194 = .ok (.iload 4, 2) := by decide +kernel
theorem dX12_equal_196 : decode cX12_equal 196 = .ok (.iaload, 1) := by decide +kernel
theorem dX12_equal_197 : decode cX12_equal 197 = .ok (.aload_n 0, 1) := by decide +kernel
theorem dX12_equal_198 : decode cX12_equal 198 = .ok (.getfield 63, 3) := by decide +kernel
theorem dX12_equal_201 : decode cX12_equal 201 = .ok (.iload 5, 2) := by decide +kernel
theorem dX12_equal_203 : decode cX12_equal 203 = .ok (.iaload, 1) := by decide +kernel
theorem dX12_equal_204 : decode cX12_equal 204 = .ok (.if_icmp .ne 24, 3) := by decide +kernel
theorem dX12_equal_207 : decode cX12_equal 207 = .ok (.aload_n 0, 1) := by decide +kernel
theorem dX12_equal_208 : decode cX12_equal 208 = .ok (.getfield 66, 3) := by decide +kernel
theorem dX12_equal_211 : decode cX12_equal 211 = .ok (.iload 4, 2) := by decide +kernel
theorem dX12_equal_213 : decode cX12_equal 213 = .ok (.iaload, 1) := by decide +kernel
theorem dX12_equal_214 : decode cX12_equal 214 = .ok (.aload_n 0, 1) := by decide +kernel
theorem dX12_equal_215 : decode cX12_equal 215 = .ok (.getfield 66, 3) := by decide +kernel
theorem dX12_equal_218 : decode cX12_equal 218 = .ok (.iload 5, 2) := by decide +kernel
theorem dX12_equal_220 : decode cX12_equal 220 = .ok (.iaload, 1) := by decide +kernel
theorem dX12_equal_221 : decode cX12_equal 221 = .ok (.if_icmp .ne 7, 3) := by decide +kernel
theorem dX12_equal_224 : decode cX12_equal 224 = .ok (.iconst 1, 1) := by decide +kernel
theorem dX12_equal_225 : decode cX12_equal 225 = .ok (.goto 4, 3) := by decide +kernel
theorem dX12_equal_228 : decode cX12_equal 228 = .ok (.iconst 0, 1) := by decide +kernel
theorem dX12_equal_229 : decode cX12_equal 229 = .ok (.istore_n 3, 1) := by decide +kernel
theorem dX12_equal_230 : decode cX12_equal 230 = .ok (.aload_n 0, 1) := by decide +kernel
theorem dX12_equal_231 : decode cX12_equal 231 = .ok (.iload_n 1, 1) := by decide +kernel
theorem dX12_equal_232 : decode cX12_equal 232 = .ok (.iload 4, 2) := by decide +kernel
theorem dX12_equal_234 : decode cX12_equal 234 = .ok (.invokevirtual 315, 3) := by decide +kernel
theorem dX12_equal_237 : decode cX12_equal 237 = .ok (.istore 4, 2) := by decide +kernel
theorem dX12_equal_239 : decode cX12_equal 239 = .ok (.aload_n 0, 1) := by decide +kernel
theorem dX12_equal_240 : decode cX12_equal 240 = .ok (.iload_n 2, 1) := by decide +kernel
theorem dX12_equal_241 : decode cX12_equal 241 = .ok (.iload 5, 2) := by decide +kernel
theorem dX12_equal_243 : decode cX12_equal 243 = .ok (.invokevirtual 315, 3) := by decide +kernel
theorem dX12_equal_246 : decode cX12_equal 246 = .ok (.istore 5, 2) := by decide +kernel
theorem dX12_equal_248 : decode cX12_equal 248 = .ok (.goto (-131), 3) := by decide +kernel
theorem dX12_equal_251 : decode cX12_equal 251 = .ok (.iload_n 3, 1) := by decide +kernel
theorem dX12_equal_252 : decode cX12_equal 252 = .ok (.ifCond .eq 19, 3) := by decide +kernel
theorem dX12_equal_255 : decode cX12_equal 255 = .ok (.iload 4, 2) := by decide +kernel
theorem dX12_equal_257 : decode cX12_equal 257 = .ok (.iconst (-1), 1) := by decide +kernel
theorem dX12_equal_258 : decode cX12_equal 258 = .ok (.if_icmp .ne 13, 3) := by decide +kernel
theorem dX12_equal_261 : decode cX12_equal 261 = .ok (.iload 5, 2) := by decide +kernel
theorem dX12_equal_263 : decode cX12_equal 263 = .ok (.iconst (-1), 1) := by decide +kernel
theorem dX12_equal_264 : decode cX12_equal 264 = .ok (.if_icmp .ne 7, 3) := by decide +kernel
theorem dX12_equal_267 : decode cX12_equal 267 = .ok (.iconst 1, 1) := by decide +kernel
theorem dX12_equal_268 : decode cX12_equal 268 = .ok (.goto 4, 3) := by decide +kernel
theorem dX12_equal_271 : decode cX12_equal 271 = .ok (.iconst 0, 1) := by decide +kernel
theorem dX12_equal_272 : decode cX12_equal 272 = .ok (.ireturn, 1) := by decide +kernel
theorem dX12_rack_0 : decode cX12_rack 0 = .ok (.aload_n 0, 1) := by decide +kernel
theorem dX12_rack_1 : decode cX12_rack 1 = .ok (.invokevirtual 144, 3) := by decide +kernel
theorem dX12_rack_4 : decode cX12_rack 4 = .ok (.iload_n 1, 1) := by decide +kernel
theorem dX12_rack_5 : decode cX12_rack 5 = .ok (.i2l, 1) := by decide +kernel
theorem dX12_rack_6 : decode cX12_rack 6 = .ok (.lconst 0, 1) := by decide +kernel
theorem dX12_rack_7 : decode cX12_rack 7 = .ok (.ldc2_w 231, 3) := by decide +kernel
theorem dX12_rack_10 : decode cX12_rack 10 = .ok (.invokestatic 137, 3) := by decide +kernel
theorem dX12_rack_13 : decode cX12_rack 13 = .ok (.ifCond .eq 21, 3) := by decide +kernel
theorem dX12_rack_16 : decode cX12_rack 16 = .ok (.iload_n 2, 1) := by decide +kernel
theorem dX12_rack_17 : decode cX12_rack 17 = .ok (.i2l, 1) := by decide +kernel
theorem dX12_rack_18 : decode cX12_rack 18 = .ok (.lconst 0, 1) := by decide +kernel
theorem dX12_rack_19 : decode cX12_rack 19 = .ok (.ldc2_w 147, 3) := by decide +kernel
theorem dX12_rack_22 : decode cX12_rack 22 = .ok (.invokestatic 137, 3) := by decide +kernel
theorem dX12_rack_25 : decode cX12_rack 25 = .ok (.ifCond .eq 9, 3) := by decide +kernel
theorem dX12_rack_28 : decode cX12_rack 28 = .ok (.iload_n 3, 1) := by decide +kernel
theorem dX12_rack_29 : decode cX12_rack 29 = .ok (.bipush 20, 2) := by decide +kernel
theorem dX12_rack_31 : decode cX12_rack 31 = .ok (.if_icmp .le 10, 3) := by decide +kernel
theorem dX12_rack_34 : decode cX12_rack 34 = .ok (.aload_n 0, 1) := by decide +kernel
theorem dX12_rack_35 : decode cX12_rack 35 = .ok (.bipush (-2), 2) := by decide +kernel
theorem dX12_rack_37 : decode cX12_rack 37 = .ok (.invokevirtual 130, 3) := by decide +kernel
theorem dX12_rack_40 : decode cX12_rack 40 = .ok (.ireturn, 1) := by decide +kernel
theorem dX12_rack_41 : decode cX12_rack 41 = .ok (.iload_n 3, 1) := by decide +kernel
theorem dX12_rack_42 : decode cX12_rack 42 = .ok (.ifCond .ge 10, 3) := by decide +kernel
theorem dX12_rack_45 : decode cX12_rack 45 = .ok (.aload_n 0, 1) := by decide +kernel
theorem dX12_rack_46 : decode cX12_rack 46 = .ok (.bipush (-15), 2) := by decide +kernel
theorem dX12_rack_48 : decode cX12_rack 48 = .ok (.invokevirtual 211, 3) := by decide +kernel
theorem dX12_rack_51 : decode cX12_rack 51 = .ok (.ireturn, 1) := by decide +kernel
theorem dX12_rack_52 : decode cX12_rack 52 = .ok (.aload_n 0, 1) := by decide +kernel
theorem dX12_rack_53 : decode cX12_rack 53 = .ok (.getfield 87, 3) := by decide +kernel
theorem dX12_rack_56 : decode cX12_rack 56 = .ok (.iload_n 1, 1) := by decide +kernel
theorem dX12_rack_57 : decode cX12_rack 57 = .ok (.iconst 1, 1) := by decide +kernel
theorem dX12_rack_58 : decode cX12_rack 58 = .ok (.bastore, 1) := by decide +kernel
theorem dX12_rack_59 : decode cX12_rack 59 = .ok (.aload_n 0, 1) := by decide +kernel
theorem dX12_rack_60 : decode cX12_rack 60 = .ok (.getfield 90, 3) := by decide +kernel
theorem dX12_rack_63 : decode cX12_rack 63 = .ok (.iload_n 1, 1) := by decide +kernel
theorem dX12_rack_64 : decode cX12_rack 64 = .ok (.iload_n 2, 1) := by decide +kernel
theorem dX12_rack_65 : decode cX12_rack 65 = .ok (.iastore, 1) := by decide +kernel
theorem dX12_rack_66 : decode cX12_rack 66 = .ok (.aload_n 0, 1) := by decide +kernel
theorem dX12_rack_67 : decode cX12_rack 67 = .ok (.getfield 93, 3) := by decide +kernel
theorem dX12_rack_70 : decode cX12_rack 70 = .ok (.iload_n 1, 1) := by decide +kernel
theorem dX12_rack_71 : decode cX12_rack 71 = .ok (.iload_n 3, 1) := by decide +kernel
theorem dX12_rack_72 : decode cX12_rack 72 = .ok (.iastore, 1) := by decide +kernel
theorem dX12_rack_73 : decode cX12_rack 73 = .ok (.iconst 0, 1) := by decide +kernel
theorem dX12_rack_74 : decode cX12_rack 74 = .ok (.istore 4, 2) := by decide +kernel
theorem dX12_rack_76 : decode cX12_rack 76 = .ok (.iload 4, 2) := by decide +kernel
theorem dX12_rack_78 : decode cX12_rack 78 = .ok (.bipush 20, 2) := by decide +kernel
theorem dX12_rack_80 : decode cX12_rack 80 = .ok (.if_icmp .ge 22, 3) := by decide +kernel
theorem dX12_rack_83 : decode cX12_rack 83 = .ok (.aload_n 0, 1) := by decide +kernel
theorem dX12_rack_84 : decode cX12_rack 84 = .ok (.getfield 96, 3) := by decide +kernel
theorem dX12_rack_87 : decode cX12_rack 87 = .ok (.bipush 20, 2) := by decide +kernel
theorem dX12_rack_89 : decode cX12_rack 89 = .ok (.iload_n 1, 1) := by decide +kernel
theorem dX12_rack_90 : decode cX12_rack 90 = .ok (.imul, 1) := by decide +kernel
theorem dX12_rack_91 : decode cX12_rack 91 = .ok (.iload 4, 2) := by decide +kernel
theorem dX12_rack_93 : decode cX12_rack 93 = .ok (.iadd, 1) := by decide +kernel
theorem dX12_rack_94 : decode cX12_rack 94 = .ok (.iconst (-1), 1) := by decide +kernel
theorem dX12_rack_95 : decode cX12_rack 95 = .ok (.iastore, 1) := by decide +kernel
theorem dX12_rack_96 : decode cX12_rack 96 = .ok (.iinc 4 1, 3) := by decide +kernel
theorem dX12_rack_99 : decode cX12_rack 99 = .ok (.goto (-23), 3) := by decide +kernel
theorem dX12_rack_102 : decode cX12_rack 102 = .ok (.iconst 1, 1) := by decide +kernel
theorem dX12_rack_103 : decode cX12_rack 103 = .ok (.ireturn, 1) := by decide +kernel
theorem dX12_isOf_0 : decode cX12_isOf 0 = .ok (.iload_n 2, 1) := by decide +kernel
theorem dX12_isOf_1 : decode cX12_isOf 1 = .ok (.iconst 5, 1) := by decide +kernel
theorem dX12_isOf_2 : decode cX12_isOf 2 = .ok (.if_icmp .eq 38, 3) := by decide +kernel
theorem dX12_isOf_5 : decode cX12_isOf 5 = .ok (.iload_n 2, 1) := by decide +kernel
theorem dX12_isOf_6 : decode cX12_isOf 6 = .ok (.aload_n 0, 1) := by decide +kernel
theorem dX12_isOf_7 : decode cX12_isOf 7 = .ok (.getfield 24, 3) := by decide +kernel
theorem dX12_isOf_10 : decode cX12_isOf 10 = .ok (.iload_n 1, 1) := by decide +kernel
theorem dX12_isOf_11 : decode cX12_isOf 11 = .ok (.iaload, 1) := by decide +kernel
theorem dX12_isOf_12 : decode cX12_isOf 12 = .ok (.if_icmp .eq 28, 3) := by decide +kernel
theorem dX12_isOf_15 : decode cX12_isOf 15 = .ok (.iload_n 2, 1) := by decide +kernel
theorem dX12_isOf_16 : decode cX12_isOf 16 = .ok (.ifCond .ne 11, 3) := by decide +kernel
theorem dX12_isOf_19 : decode cX12_isOf 19 = .ok (.aload_n 0, 1) := by decide +kernel
theorem dX12_isOf_20 : decode cX12_isOf 20 = .ok (.iload_n 1, 1) := by decide +kernel
theorem dX12_isOf_21 : decode cX12_isOf 21 = .ok (.invokevirtual 214, 3) := by decide +kernel
theorem dX12_isOf_24 : decode cX12_isOf 24 = .ok (.ifCond .ne 16, 3) := by decide +kernel
theorem dX12_isOf_27 : decode cX12_isOf 27 = .ok (.iload_n 2, 1) := by decide +kernel
theorem dX12_isOf_28 : decode cX12_isOf 28 = .ok (.iconst 3, 1) := by decide +kernel
theorem dX12_isOf_29 : decode cX12_isOf 29 = .ok (.if_icmp .ne 15, 3) := by decide +kernel
theorem dX12_isOf_32 : decode cX12_isOf 32 = .ok (.aload_n 0, 1) := by decide +kernel
theorem dX12_isOf_33 : decode cX12_isOf 33 = .ok (.iload_n 1, 1) := by decide +kernel
theorem dX12_isOf_34 : decode cX12_isOf 34 = .ok (.invokevirtual 214, 3) := by decide +kernel
theorem dX12_isOf_37 : decode cX12_isOf 37 = .ok (.ifCond .ne 7, 3) := by decide +kernel
theorem dX12_isOf_40 : decode cX12_isOf 40 = .ok (.iconst 1, 1) := by decide +kernel
theorem dX12_isOf_41 : decode cX12_isOf 41 = .ok (.goto 4, 3) := by decide +kernel
theorem dX12_isOf_44 : decode cX12_isOf 44 = .ok (.iconst 0, 1) := by decide +kernel
theorem dX12_isOf_45 : decode cX12_isOf 45 = .ok (.ireturn, 1) := by decide +kernel
theorem dX12_hold_0 : decode cX12_hold 0 = .ok (.aload_n 0, 1) := by decide +kernel
theorem dX12_hold_1 : decode cX12_hold 1 = .ok (.invokevirtual 144, 3) := by decide +kernel
theorem dX12_hold_4 : decode cX12_hold 4 = .ok (.iload_n 1, 1) := by decide +kernel
theorem dX12_hold_5 : decode cX12_hold 5 = .ok (.i2l, 1) := by decide +kernel
theorem dX12_hold_6 : decode cX12_hold 6 = .ok (.lconst 0, 1) := by decide +kernel
theorem dX12_hold_7 : decode cX12_hold 7 = .ok (.ldc2_w 231, 3) := by decide +kernel
theorem dX12_hold_10 : decode cX12_hold 10 = .ok (.invokestatic 137, 3) := by decide +kernel
theorem dX12_hold_13 : decode cX12_hold 13 = .ok (.ifCond .eq 16, 3) := by decide +kernel
theorem dX12_hold_16 : decode cX12_hold 16 = .ok (.iload_n 3, 1) := by decide +kernel
theorem dX12_hold_17 : decode cX12_hold 17 = .ok (.iconst (-1), 1) := by decide +kernel
theorem dX12_hold_18 : decode cX12_hold 18 = .ok (.if_icmp .eq 18, 3) := by decide +kernel
theorem dX12_hold_21 : decode cX12_hold 21 = .ok (.aload_n 0, 1) := by decide +kernel
theorem dX12_hold_22 : decode cX12_hold 22 = .ok (.iload_n 3, 1) := by decide +kernel
theorem dX12_hold_23 : decode cX12_hold 23 = .ok (.invokevirtual 193, 3) := by decide +kernel
theorem dX12_hold_26 : decode cX12_hold 26 = .ok (.ifCond .ne 10, 3) := by decide +kernel
theorem dX12_hold_29 : decode cX12_hold 29 = .ok (.aload_n 0, 1) := by decide +kernel
theorem dX12_hold_30 : decode cX12_hold 30 = .ok (.bipush (-2), 2) := by decide +kernel
theorem dX12_hold_32 : decode cX12_hold 32 = .ok (.invokevirtual 130, 3) := by decide +kernel
theorem dX12_hold_35 : decode cX12_hold 35 = .ok (.ireturn, 1) := by decide +kernel
theorem dX12_hold_36 : decode cX12_hold 36 = .ok (.aload_n 0, 1) := by decide +kernel
theorem dX12_hold_37 : decode cX12_hold 37 = .ok (.getfield 87, 3) := by decide +kernel
theorem dX12_hold_40 : decode cX12_hold 40 = .ok (.iload_n 1, 1) := by decide +kernel
theorem dX12_hold_41 : decode cX12_hold 41 = .ok (.baload, 1) := by decide +kernel
theorem dX12_hold_42 : decode cX12_hold 42 = .ok (.ifCond .ne 10, 3) := by decide +kernel
theorem dX12_hold_45 : decode cX12_hold 45 = .ok (.aload_n 0, 1) := by decide +kernel
theorem dX12_hold_46 : decode cX12_hold 46 = .ok (.bipush (-11), 2) := by decide +kernel
theorem dX12_hold_48 : decode cX12_hold 48 = .ok (.invokevirtual 211, 3) := by decide +kernel
theorem dX12_hold_51 : decode cX12_hold 51 = .ok (.ireturn, 1) := by decide +kernel
theorem dX12_hold_52 : decode cX12_hold 52 = .ok (.iload_n 2, 1) := by decide +kernel
theorem dX12_hold_53 : decode cX12_hold 53 = .ok (.i2l, 1) := by decide +kernel
theorem dX12_hold_54 : decode cX12_hold 54 = .ok (.lconst 0, 1) := by decide +kernel
theorem dX12_hold_55 : decode cX12_hold 55 = .ok (.aload_n 0, 1) := by decide +kernel
theorem dX12_hold_56 : decode cX12_hold 56 = .ok (.getfield 93, 3) := by decide +kernel
theorem dX12_hold_59 : decode cX12_hold 59 = .ok (.iload_n 1, 1) := by decide +kernel
theorem dX12_hold_60 : decode cX12_hold 60 = .ok (.iaload, 1) := by decide +kernel
theorem dX12_hold_61 : decode cX12_hold 61 = .ok (.iconst 1, 1) := by decide +kernel
theorem dX12_hold_62 : decode cX12_hold 62 = .ok (.isub, 1) := by decide +kernel
theorem dX12_hold_63 : decode cX12_hold 63 = .ok (.i2l, 1) := by decide +kernel
theorem dX12_hold_64 : decode cX12_hold 64 = .ok (.invokestatic 137, 3) := by decide +kernel
theorem dX12_hold_67 : decode cX12_hold 67 = .ok (.ifCond .ne 10, 3) := by decide +kernel
theorem dX12_hold_70 : decode cX12_hold 70 = .ok (.aload_n 0, 1) := by decide +kernel
theorem dX12_hold_71 : decode cX12_hold 71 = .ok (.bipush (-12), 2) := by decide +kernel
theorem dX12_hold_73 : decode cX12_hold 73 = .ok (.invokevirtual 211, 3) := by decide +kernel
theorem dX12_hold_76 : decode cX12_hold 76 = .ok (.ireturn, 1) := by decide +kernel
theorem dX12_hold_77 : decode cX12_hold 77 = .ok (.iload_n 3, 1) := by decide +kernel
theorem dX12_hold_78 : decode cX12_hold 78 = .ok (.iconst (-1), 1) := by decide +kernel
theorem dX12_hold_79 : decode cX12_hold 79 = .ok (.if_icmp .eq 24, 3) := by decide +kernel
theorem dX12_hold_82 : decode cX12_hold 82 = .ok (.aload_n 0, 1) := by decide +kernel
theorem dX12_hold_83 : decode cX12_hold 83 = .ok (.iload_n 3, 1) := by decide +kernel
theorem dX12_hold_84 : decode cX12_hold 84 = .ok (.aload_n 0, 1) := by decide +kernel
theorem dX12_hold_85 : decode cX12_hold 85 = .ok (.getfield 90, 3) := by decide +kernel
theorem dX12_hold_88 : decode cX12_hold 88 = .ok (.iload_n 1, 1) := by decide +kernel
theorem dX12_hold_89 : decode cX12_hold 89 = .ok (.iaload, 1) := by decide +kernel
theorem dX12_hold_90 : decode cX12_hold 90 = .ok (.invokevirtual 318, 3) := by decide +kernel
theorem dX12_hold_93 : decode cX12_hold 93 = .ok (.ifCond .ne 10, 3) := by decide +kernel
theorem dX12_hold_96 : decode cX12_hold 96 = .ok (.aload_n 0, 1) := by decide +kernel
theorem dX12_hold_97 : decode cX12_hold 97 = .ok (.bipush (-14), 2) := by decide +kernel
theorem dX12_hold_99 : decode cX12_hold 99 = .ok (.invokevirtual 211, 3) := by decide +kernel
theorem dX12_hold_102 : decode cX12_hold 102 = .ok (.ireturn, 1) := by decide +kernel
theorem dX12_hold_103 : decode cX12_hold 103 = .ok (.aload_n 0, 1) := by decide +kernel
theorem dX12_hold_104 : decode cX12_hold 104 = .ok (.getfield 96, 3) := by decide +kernel
theorem dX12_hold_107 : decode cX12_hold 107 = .ok (.bipush 20, 2) := by decide +kernel
theorem dX12_hold_109 : decode cX12_hold 109 = .ok (.iload_n 1, 1) := by decide +kernel
theorem dX12_hold_110 : decode cX12_hold 110 = .ok (.imul, 1) := by decide +kernel
theorem dX12_hold_111 : decode cX12_hold 111 = .ok (.iload_n 2, 1) := by decide +kernel
theorem dX12_hold_112 : decode cX12_hold 112 = .ok (.iadd, 1) := by decide +kernel
theorem dX12_hold_113 : decode cX12_hold 113 = .ok (.iload_n 3, 1) := by decide +kernel
theorem dX12_hold_114 : decode cX12_hold 114 = .ok (.iastore, 1) := by decide +kernel
theorem dX12_hold_115 : decode cX12_hold 115 = .ok (.iconst 1, 1) := by decide +kernel
theorem dX12_hold_116 : decode cX12_hold 116 = .ok (.ireturn, 1) := by decide +kernel
theorem dX12_held_0 : decode cX12_held 0 = .ok (.aload_n 0, 1) := by decide +kernel
theorem dX12_held_1 : decode cX12_held 1 = .ok (.invokevirtual 144, 3) := by decide +kernel
theorem dX12_held_4 : decode cX12_held 4 = .ok (.iload_n 1, 1) := by decide +kernel
theorem dX12_held_5 : decode cX12_held 5 = .ok (.i2l, 1) := by decide +kernel
theorem dX12_held_6 : decode cX12_held 6 = .ok (.lconst 0, 1) := by decide +kernel
theorem dX12_held_7 : decode cX12_held 7 = .ok (.ldc2_w 231, 3) := by decide +kernel
theorem dX12_held_10 : decode cX12_held 10 = .ok (.invokestatic 137, 3) := by decide +kernel
theorem dX12_held_13 : decode cX12_held 13 = .ok (.ifCond .ne 10, 3) := by decide +kernel
theorem dX12_held_16 : decode cX12_held 16 = .ok (.aload_n 0, 1) := by decide +kernel
theorem dX12_held_17 : decode cX12_held 17 = .ok (.bipush (-2), 2) := by decide +kernel
theorem dX12_held_19 : decode cX12_held 19 = .ok (.invokevirtual 130, 3) := by decide +kernel
theorem dX12_held_22 : decode cX12_held 22 = .ok (.ireturn, 1) := by decide +kernel
theorem dX12_held_23 : decode cX12_held 23 = .ok (.aload_n 0, 1) := by decide +kernel
theorem dX12_held_24 : decode cX12_held 24 = .ok (.getfield 87, 3) := by decide +kernel
theorem dX12_held_27 : decode cX12_held 27 = .ok (.iload_n 1, 1) := by decide +kernel
theorem dX12_held_28 : decode cX12_held 28 = .ok (.baload, 1) := by decide +kernel
theorem dX12_held_29 : decode cX12_held 29 = .ok (.ifCond .ne 10, 3) := by decide +kernel
theorem dX12_held_32 : decode cX12_held 32 = .ok (.aload_n 0, 1) := by decide +kernel
theorem dX12_held_33 : decode cX12_held 33 = .ok (.bipush (-11), 2) := by decide +kernel
theorem dX12_held_35 : decode cX12_held 35 = .ok (.invokevirtual 211, 3) := by decide +kernel
theorem dX12_held_38 : decode cX12_held 38 = .ok (.ireturn, 1) := by decide +kernel
theorem dX12_held_39 : decode cX12_held 39 = .ok (.iload_n 2, 1) := by decide +kernel
theorem dX12_held_40 : decode cX12_held 40 = .ok (.i2l, 1) := by decide +kernel
theorem dX12_held_41 : decode cX12_held 41 = .ok (.lconst 0, 1) := by decide +kernel
theorem dX12_held_42 : decode cX12_held 42 = .ok (.aload_n 0, 1) := by decide +kernel
theorem dX12_held_43 : decode cX12_held 43 = .ok (.getfield 93, 3) := by decide +kernel
theorem dX12_held_46 : decode cX12_held 46 = .ok (.iload_n 1, 1) := by decide +kernel
theorem dX12_held_47 : decode cX12_held 47 = .ok (.iaload, 1) := by decide +kernel
theorem dX12_held_48 : decode cX12_held 48 = .ok (.iconst 1, 1) := by decide +kernel
theorem dX12_held_49 : decode cX12_held 49 = .ok (.isub, 1) := by decide +kernel
theorem dX12_held_50 : decode cX12_held 50 = .ok (.i2l, 1) := by decide +kernel
theorem dX12_held_51 : decode cX12_held 51 = .ok (.invokestatic 137, 3) := by decide +kernel
theorem dX12_held_54 : decode cX12_held 54 = .ok (.ifCond .ne 10, 3) := by decide +kernel
theorem dX12_held_57 : decode cX12_held 57 = .ok (.aload_n 0, 1) := by decide +kernel
theorem dX12_held_58 : decode cX12_held 58 = .ok (.bipush (-12), 2) := by decide +kernel
theorem dX12_held_60 : decode cX12_held 60 = .ok (.invokevirtual 211, 3) := by decide +kernel
theorem dX12_held_63 : decode cX12_held 63 = .ok (.ireturn, 1) := by decide +kernel
theorem dX12_held_64 : decode cX12_held 64 = .ok (.aload_n 0, 1) := by decide +kernel
theorem dX12_held_65 : decode cX12_held 65 = .ok (.getfield 96, 3) := by decide +kernel
theorem dX12_held_68 : decode cX12_held 68 = .ok (.bipush 20, 2) := by decide +kernel
theorem dX12_held_70 : decode cX12_held 70 = .ok (.iload_n 1, 1) := by decide +kernel
theorem dX12_held_71 : decode cX12_held 71 = .ok (.imul, 1) := by decide +kernel
theorem dX12_held_72 : decode cX12_held 72 = .ok (.iload_n 2, 1) := by decide +kernel
theorem dX12_held_73 : decode cX12_held 73 = .ok (.iadd, 1) := by decide +kernel
theorem dX12_held_74 : decode cX12_held 74 = .ok (.iaload, 1) := by decide +kernel
theorem dX12_held_75 : decode cX12_held 75 = .ok (.istore_n 3, 1) := by decide +kernel
theorem dX12_held_76 : decode cX12_held 76 = .ok (.iload_n 3, 1) := by decide +kernel
theorem dX12_held_77 : decode cX12_held 77 = .ok (.iconst (-1), 1) := by decide +kernel
theorem dX12_held_78 : decode cX12_held 78 = .ok (.if_icmp .ne 12, 3) := by decide +kernel
theorem dX12_held_81 : decode cX12_held 81 = .ok (.aload_n 0, 1) := by decide +kernel
theorem dX12_held_82 : decode cX12_held 82 = .ok (.bipush (-11), 2) := by decide +kernel
theorem dX12_held_84 : decode cX12_held 84 = .ok (.invokevirtual 211, 3) := by decide +kernel
theorem dX12_held_87 : decode cX12_held 87 = .ok (.goto 4, 3) := by decide +kernel
theorem dX12_held_90 : decode cX12_held 90 = .ok (.iload_n 3, 1) := by decide +kernel
theorem dX12_held_91 : decode cX12_held 91 = .ok (.ireturn, 1) := by decide +kernel
theorem dX12_areThere_0 : decode cX12_areThere 0 = .ok (.iload_n 0, 1) := by decide +kernel
theorem dX12_areThere_1 : decode cX12_areThere 1 = .ok (.ifCond .lt 22, 3) := by decide +kernel
theorem dX12_areThere_4 : decode cX12_areThere 4 = .ok (.iload_n 1, 1) := by decide +kernel
theorem dX12_areThere_5 : decode cX12_areThere 5 = .ok (.ifCond .lt 18, 3) := by decide +kernel
theorem dX12_areThere_8 : decode cX12_areThere 8 = .ok (.iload_n 0, 1) := by decide +kernel
theorem dX12_areThere_9 : decode cX12_areThere 9 = .ok (.i2l, 1) := by decide +kernel
theorem dX12_areThere_10 : decode cX12_areThere 10 = .ok (.iload_n 1, 1) := by decide +kernel
theorem dX12_areThere_11 : decode cX12_areThere 11 = .ok (.i2l, 1) := by decide +kernel
theorem dX12_areThere_12 : decode cX12_areThere 12 = .ok (.ladd, 1) := by decide +kernel
theorem dX12_areThere_13 : decode cX12_areThere 13 = .ok (.iload_n 2, 1) := by decide +kernel
theorem dX12_areThere_14 : decode cX12_areThere 14 = .ok (.i2l, 1) := by decide +kernel
theorem dX12_areThere_15 : decode cX12_areThere 15 = .ok (.lcmp, 1) := by decide +kernel
theorem dX12_areThere_16 : decode cX12_areThere 16 = .ok (.ifCond .gt 7, 3) := by decide +kernel
theorem dX12_areThere_19 : decode cX12_areThere 19 = .ok (.iconst 1, 1) := by decide +kernel
theorem dX12_areThere_20 : decode cX12_areThere 20 = .ok (.goto 4, 3) := by decide +kernel
theorem dX12_areThere_23 : decode cX12_areThere 23 = .ok (.iconst 0, 1) := by decide +kernel
theorem dX12_areThere_24 : decode cX12_areThere 24 = .ok (.ireturn, 1) := by decide +kernel
theorem dX12_slide_0 : decode cX12_slide 0 = .ok (.aload_n 0, 1) := by decide +kernel
theorem dX12_slide_1 : decode cX12_slide 1 = .ok (.invokevirtual 144, 3) := by decide +kernel
theorem dX12_slide_4 : decode cX12_slide 4 = .ok (.iload_n 1, 1) := by decide +kernel
theorem dX12_slide_5 : decode cX12_slide 5 = .ok (.i2l, 1) := by decide +kernel
theorem dX12_slide_6 : decode cX12_slide 6 = .ok (.lconst 0, 1) := by decide +kernel
theorem dX12_slide_7 : decode cX12_slide 7 = .ok (.ldc2_w 231, 3) := by decide +kernel
theorem dX12_slide_10 : decode cX12_slide 10 = .ok (.invokestatic 137, 3) := by decide +kernel
theorem dX12_slide_13 : decode cX12_slide 13 = .ok (.ifCond .ne 10, 3) := by decide +kernel
theorem dX12_slide_16 : decode cX12_slide 16 = .ok (.aload_n 0, 1) := by decide +kernel
theorem dX12_slide_17 : decode cX12_slide 17 = .ok (.bipush (-2), 2) := by decide +kernel
theorem dX12_slide_19 : decode cX12_slide 19 = .ok (.invokevirtual 130, 3) := by decide +kernel
theorem dX12_slide_22 : decode cX12_slide 22 = .ok (.ireturn, 1) := by decide +kernel
theorem dX12_slide_23 : decode cX12_slide 23 = .ok (.aload_n 0, 1) := by decide +kernel
theorem dX12_slide_24 : decode cX12_slide 24 = .ok (.getfield 87, 3) := by decide +kernel
theorem dX12_slide_27 : decode cX12_slide 27 = .ok (.iload_n 1, 1) := by decide +kernel
theorem dX12_slide_28 : decode cX12_slide 28 = .ok (.baload, 1) := by decide +kernel
theorem dX12_slide_29 : decode cX12_slide 29 = .ok (.ifCond .ne 10, 3) := by decide +kernel
theorem dX12_slide_32 : decode cX12_slide 32 = .ok (.aload_n 0, 1) := by decide +kernel
theorem dX12_slide_33 : decode cX12_slide 33 = .ok (.bipush (-11), 2) := by decide +kernel
theorem dX12_slide_35 : decode cX12_slide 35 = .ok (.invokevirtual 211, 3) := by decide +kernel
theorem dX12_slide_38 : decode cX12_slide 38 = .ok (.ireturn, 1) := by decide +kernel
theorem dX12_slide_39 : decode cX12_slide 39 = .ok (.iload_n 2, 1) := by decide +kernel
theorem dX12_slide_40 : decode cX12_slide 40 = .ok (.iload 4, 2) := by decide +kernel
theorem dX12_slide_42 : decode cX12_slide 42 = .ok (.aload_n 0, 1) := by decide +kernel
theorem dX12_slide_43 : decode cX12_slide 43 = .ok (.getfield 93, 3) := by decide +kernel
theorem dX12_slide_46 : decode cX12_slide 46 = .ok (.iload_n 1, 1) := by decide +kernel
theorem dX12_slide_47 : decode cX12_slide 47 = .ok (.iaload, 1) := by decide +kernel
theorem dX12_slide_48 : decode cX12_slide 48 = .ok (.invokestatic 321, 3) := by decide +kernel
theorem dX12_slide_51 : decode cX12_slide 51 = .ok (.ifCond .eq 18, 3) := by decide +kernel
theorem dX12_slide_54 : decode cX12_slide 54 = .ok (.iload_n 3, 1) := by decide +kernel
theorem dX12_slide_55 : decode cX12_slide 55 = .ok (.iload 4, 2) := by decide +kernel
theorem dX12_slide_57 : decode cX12_slide 57 = .ok (.aload_n 0, 1) := by decide +kernel
theorem dX12_slide_58 : decode cX12_slide 58 = .ok (.getfield 93, 3) := by decide +kernel
theorem dX12_slide_61 : decode cX12_slide 61 = .ok (.iload_n 1, 1) := by decide +kernel
theorem dX12_slide_62 : decode cX12_slide 62 = .ok (.iaload, 1) := by decide +kernel
theorem dX12_slide_63 : decode cX12_slide 63 = .ok (.invokestatic 321, 3) := by decide +kernel
theorem dX12_slide_66 : decode cX12_slide 66 = .ok (.ifCond .ne 10, 3) := by decide +kernel
theorem dX12_slide_69 : decode cX12_slide 69 = .ok (.aload_n 0, 1) := by decide +kernel
theorem dX12_slide_70 : decode cX12_slide 70 = .ok (.bipush (-12), 2) := by decide +kernel
theorem dX12_slide_72 : decode cX12_slide 72 = .ok (.invokevirtual 211, 3) := by decide +kernel
theorem dX12_slide_75 : decode cX12_slide 75 = .ok (.ireturn, 1) := by decide +kernel
theorem dX12_slide_76 : decode cX12_slide 76 = .ok (.iconst 0, 1) := by decide +kernel
theorem dX12_slide_77 : decode cX12_slide 77 = .ok (.istore 5, 2) := by decide +kernel
theorem dX12_slide_79 : decode cX12_slide 79 = .ok (.iload 5, 2) := by decide +kernel
theorem dX12_slide_81 : decode cX12_slide 81 = .ok (.iload 4, 2) := by decide +kernel
theorem dX12_slide_83 : decode cX12_slide 83 = .ok (.if_icmp .ge 30, 3) := by decide +kernel
theorem dX12_slide_86 : decode cX12_slide 86 = .ok (.aload_n 0, 1) := by decide +kernel
theorem dX12_slide_87 : decode cX12_slide 87 = .ok (.getfield 99, 3) := by decide +kernel
theorem dX12_slide_90 : decode cX12_slide 90 = .ok (.iload 5, 2) := by decide +kernel
theorem dX12_slide_92 : decode cX12_slide 92 = .ok (.aload_n 0, 1) := by decide +kernel
theorem dX12_slide_93 : decode cX12_slide 93 = .ok (.getfield 96, 3) := by decide +kernel
theorem dX12_slide_96 : decode cX12_slide 96 = .ok (.bipush 20, 2) := by decide +kernel
theorem dX12_slide_98 : decode cX12_slide 98 = .ok (.iload_n 1, 1) := by decide +kernel
theorem dX12_slide_99 : decode cX12_slide 99 = .ok (.imul, 1) := by decide +kernel
theorem dX12_slide_100 : decode cX12_slide 100 = .ok (.iload_n 2, 1) := by decide +kernel
theorem dX12_slide_101 : decode cX12_slide 101 = .ok (.iadd, 1) := by decide +kernel
theorem dX12_slide_102 : decode cX12_slide 102 = .ok (.iload 5, 2) := by decide +kernel
theorem dX12_slide_104 : decode cX12_slide 104 = .ok (.iadd, 1) := by decide +kernel
theorem dX12_slide_105 : decode cX12_slide 105 = .ok (.iaload, 1) := by decide +kernel
theorem dX12_slide_106 : decode cX12_slide 106 = .ok (.iastore, 1) := by decide +kernel
theorem dX12_slide_107 : decode cX12_slide 107 = .ok (.iinc 5 1, 3) := by decide +kernel
theorem dX12_slide_110 : decode cX12_slide 110 = .ok (.goto (-31), 3) := by decide +kernel
theorem dX12_slide_113 : decode cX12_slide 113 = .ok (.iconst 0, 1) := by decide +kernel
theorem dX12_slide_114 : decode cX12_slide 114 = .ok (.istore 5, 2) := by decide +kernel
theorem dX12_slide_116 : decode cX12_slide 116 = .ok (.iload 5, 2) := by decide +kernel
theorem dX12_slide_118 : decode cX12_slide 118 = .ok (.iload 4, 2) := by decide +kernel
theorem dX12_slide_120 : decode cX12_slide 120 = .ok (.if_icmp .ge 30, 3) := by decide +kernel
theorem dX12_slide_123 : decode cX12_slide 123 = .ok (.aload_n 0, 1) := by decide +kernel
theorem dX12_slide_124 : decode cX12_slide 124 = .ok (.getfield 96, 3) := by decide +kernel
theorem dX12_slide_127 : decode cX12_slide 127 = .ok (.bipush 20, 2) := by decide +kernel
theorem dX12_slide_129 : decode cX12_slide 129 = .ok (.iload_n 1, 1) := by decide +kernel
theorem dX12_slide_130 : decode cX12_slide 130 = .ok (.imul, 1) := by decide +kernel
theorem dX12_slide_131 : decode cX12_slide 131 = .ok (.iload_n 3, 1) := by decide +kernel
theorem dX12_slide_132 : decode cX12_slide 132 = .ok (.iadd, 1) := by decide +kernel
theorem dX12_slide_133 : decode cX12_slide 133 = .ok (.iload 5, 2) := by decide +kernel
theorem dX12_slide_135 : decode cX12_slide 135 = .ok (.iadd, 1) := by decide +kernel
theorem dX12_slide_136 : decode cX12_slide 136 = .ok (.aload_n 0, 1) := by decide +kernel
theorem dX12_slide_137 : decode cX12_slide 137 = .ok (.getfield 99, 3) := by decide +kernel
theorem dX12_slide_140 : decode cX12_slide 140 = .ok (.iload 5, 2) := by decide +kernel
theorem dX12_slide_142 : decode cX12_slide 142 = .ok (.iaload, 1) := by decide +kernel
theorem dX12_slide_143 : decode cX12_slide 143 = .ok (.iastore, 1) := by decide +kernel
theorem dX12_slide_144 : decode cX12_slide 144 = .ok (.iinc 5 1, 3) := by decide +kernel
theorem dX12_slide_147 : decode cX12_slide 147 = .ok (.goto (-31), 3) := by decide +kernel
theorem dX12_slide_150 : decode cX12_slide 150 = .ok (.iload 4, 2) := by decide +kernel
theorem dX12_slide_152 : decode cX12_slide 152 = .ok (.ireturn, 1) := by decide +kernel
theorem dX12_shelf_0 : decode cX12_shelf 0 = .ok (.aload_n 0, 1) := by decide +kernel
theorem dX12_shelf_1 : decode cX12_shelf 1 = .ok (.invokevirtual 144, 3) := by decide +kernel
theorem dX12_shelf_4 : decode cX12_shelf 4 = .ok (.iload_n 1, 1) := by decide +kernel
theorem dX12_shelf_5 : decode cX12_shelf 5 = .ok (.i2l, 1) := by decide +kernel
theorem dX12_shelf_6 : decode cX12_shelf 6 = .ok (.lconst 0, 1) := by decide +kernel
theorem dX12_shelf_7 : decode cX12_shelf 7 = .ok (.ldc2_w 231, 3) := by decide +kernel
theorem dX12_shelf_10 : decode cX12_shelf 10 = .ok (.invokestatic 137, 3) := by decide +kernel
theorem dX12_shelf_13 : decode cX12_shelf 13 = .ok (.ifCond .eq 21, 3) := by decide +kernel
theorem dX12_shelf_16 : decode cX12_shelf 16 = .ok (.iload_n 2, 1) := by decide +kernel
theorem dX12_shelf_17 : decode cX12_shelf 17 = .ok (.i2l, 1) := by decide +kernel
theorem dX12_shelf_18 : decode cX12_shelf 18 = .ok (.lconst 0, 1) := by decide +kernel
theorem dX12_shelf_19 : decode cX12_shelf 19 = .ok (.ldc2_w 231, 3) := by decide +kernel
theorem dX12_shelf_22 : decode cX12_shelf 22 = .ok (.invokestatic 137, 3) := by decide +kernel
theorem dX12_shelf_25 : decode cX12_shelf 25 = .ok (.ifCond .eq 9, 3) := by decide +kernel
theorem dX12_shelf_28 : decode cX12_shelf 28 = .ok (.iload_n 3, 1) := by decide +kernel
theorem dX12_shelf_29 : decode cX12_shelf 29 = .ok (.bipush 60, 2) := by decide +kernel
theorem dX12_shelf_31 : decode cX12_shelf 31 = .ok (.if_icmp .le 10, 3) := by decide +kernel
theorem dX12_shelf_34 : decode cX12_shelf 34 = .ok (.aload_n 0, 1) := by decide +kernel
theorem dX12_shelf_35 : decode cX12_shelf 35 = .ok (.bipush (-2), 2) := by decide +kernel
theorem dX12_shelf_37 : decode cX12_shelf 37 = .ok (.invokevirtual 130, 3) := by decide +kernel
theorem dX12_shelf_40 : decode cX12_shelf 40 = .ok (.ireturn, 1) := by decide +kernel
theorem dX12_shelf_41 : decode cX12_shelf 41 = .ok (.iload_n 3, 1) := by decide +kernel
theorem dX12_shelf_42 : decode cX12_shelf 42 = .ok (.ifCond .ge 10, 3) := by decide +kernel
theorem dX12_shelf_45 : decode cX12_shelf 45 = .ok (.aload_n 0, 1) := by decide +kernel
theorem dX12_shelf_46 : decode cX12_shelf 46 = .ok (.bipush (-15), 2) := by decide +kernel
theorem dX12_shelf_48 : decode cX12_shelf 48 = .ok (.invokevirtual 211, 3) := by decide +kernel
theorem dX12_shelf_51 : decode cX12_shelf 51 = .ok (.ireturn, 1) := by decide +kernel
theorem dX12_shelf_52 : decode cX12_shelf 52 = .ok (.aload_n 0, 1) := by decide +kernel
theorem dX12_shelf_53 : decode cX12_shelf 53 = .ok (.getfield 102, 3) := by decide +kernel
theorem dX12_shelf_56 : decode cX12_shelf 56 = .ok (.iload_n 1, 1) := by decide +kernel
theorem dX12_shelf_57 : decode cX12_shelf 57 = .ok (.iconst 1, 1) := by decide +kernel
theorem dX12_shelf_58 : decode cX12_shelf 58 = .ok (.bastore, 1) := by decide +kernel
theorem dX12_shelf_59 : decode cX12_shelf 59 = .ok (.aload_n 0, 1) := by decide +kernel
theorem dX12_shelf_60 : decode cX12_shelf 60 = .ok (.getfield 105, 3) := by decide +kernel
theorem dX12_shelf_63 : decode cX12_shelf 63 = .ok (.iload_n 1, 1) := by decide +kernel
theorem dX12_shelf_64 : decode cX12_shelf 64 = .ok (.iload_n 2, 1) := by decide +kernel
theorem dX12_shelf_65 : decode cX12_shelf 65 = .ok (.iastore, 1) := by decide +kernel
theorem dX12_shelf_66 : decode cX12_shelf 66 = .ok (.aload_n 0, 1) := by decide +kernel
theorem dX12_shelf_67 : decode cX12_shelf 67 = .ok (.getfield 108, 3) := by decide +kernel
theorem dX12_shelf_70 : decode cX12_shelf 70 = .ok (.iload_n 1, 1) := by decide +kernel
theorem dX12_shelf_71 : decode cX12_shelf 71 = .ok (.iload_n 3, 1) := by decide +kernel
theorem dX12_shelf_72 : decode cX12_shelf 72 = .ok (.iastore, 1) := by decide +kernel
theorem dX12_shelf_73 : decode cX12_shelf 73 = .ok (.iconst 0, 1) := by decide +kernel
theorem dX12_shelf_74 : decode cX12_shelf 74 = .ok (.istore 4, 2) := by decide +kernel
theorem dX12_shelf_76 : decode cX12_shelf 76 = .ok (.iload 4, 2) := by decide +kernel
theorem dX12_shelf_78 : decode cX12_shelf 78 = .ok (.bipush 60, 2) := by decide +kernel
theorem dX12_shelf_80 : decode cX12_shelf 80 = .ok (.if_icmp .ge 22, 3) := by decide +kernel
theorem dX12_shelf_83 : decode cX12_shelf 83 = .ok (.aload_n 0, 1) := by decide +kernel
theorem dX12_shelf_84 : decode cX12_shelf 84 = .ok (.getfield 111, 3) := by decide +kernel
theorem dX12_shelf_87 : decode cX12_shelf 87 = .ok (.bipush 60, 2) := by decide +kernel
theorem dX12_shelf_89 : decode cX12_shelf 89 = .ok (.iload_n 1, 1) := by decide +kernel
theorem dX12_shelf_90 : decode cX12_shelf 90 = .ok (.imul, 1) := by decide +kernel
theorem dX12_shelf_91 : decode cX12_shelf 91 = .ok (.iload 4, 2) := by decide +kernel
theorem dX12_shelf_93 : decode cX12_shelf 93 = .ok (.iadd, 1) := by decide +kernel
theorem dX12_shelf_94 : decode cX12_shelf 94 = .ok (.iconst 0, 1) := by decide +kernel
theorem dX12_shelf_95 : decode cX12_shelf 95 = .ok (.iastore, 1) := by decide +kernel
theorem dX12_shelf_96 : decode cX12_shelf 96 = .ok (.iinc 4 1, 3) := by decide +kernel
theorem dX12_shelf_99 : decode cX12_shelf 99 = .ok (.goto (-23), 3) := by decide +kernel
theorem dX12_shelf_102 : decode cX12_shelf 102 = .ok (.iconst 1, 1) := by decide +kernel
theorem dX12_shelf_103 : decode cX12_shelf 103 = .ok (.ireturn, 1) := by decide +kernel
theorem dX12_lays_0 : decode cX12_lays 0 = .ok (.iload_n 1, 1) := by decide +kernel
theorem dX12_lays_1 : decode cX12_lays 1 = .ok (.iconst (-1), 1) := by decide +kernel
theorem dX12_lays_2 : decode cX12_lays 2 = .ok (.if_icmp .ne 15, 3) := by decide +kernel
theorem dX12_lays_5 : decode cX12_lays 5 = .ok (.aload_n 0, 1) := by decide +kernel
theorem dX12_lays_6 : decode cX12_lays 6 = .ok (.aload_n 0, 1) := by decide +kernel
theorem dX12_lays_7 : decode cX12_lays 7 = .ok (.bipush (-11), 2) := by decide +kernel
theorem dX12_lays_9 : decode cX12_lays 9 = .ok (.invokevirtual 211, 3) := by decide +kernel
theorem dX12_lays_12 : decode cX12_lays 12 = .ok (.putfield 325, 3) := by decide +kernel
theorem dX12_lays_15 : decode cX12_lays 15 = .ok (.iconst 0, 1) := by decide +kernel
theorem dX12_lays_16 : decode cX12_lays 16 = .ok (.ireturn, 1) := by decide +kernel
theorem dX12_lays_17 : decode cX12_lays 17 = .ok (.aload_n 0, 1) := by decide +kernel
theorem dX12_lays_18 : decode cX12_lays 18 = .ok (.iload_n 1, 1) := by decide +kernel
theorem dX12_lays_19 : decode cX12_lays 19 = .ok (.invokevirtual 214, 3) := by decide +kernel
theorem dX12_lays_22 : decode cX12_lays 22 = .ok (.ifCond .ne 15, 3) := by decide +kernel
theorem dX12_lays_25 : decode cX12_lays 25 = .ok (.aload_n 0, 1) := by decide +kernel
theorem dX12_lays_26 : decode cX12_lays 26 = .ok (.aload_n 0, 1) := by decide +kernel
theorem dX12_lays_27 : decode cX12_lays 27 = .ok (.bipush (-13), 2) := by decide +kernel
theorem dX12_lays_29 : decode cX12_lays 29 = .ok (.invokevirtual 211, 3) := by decide +kernel
theorem dX12_lays_32 : decode cX12_lays 32 = .ok (.putfield 325, 3) := by decide +kernel
theorem dX12_lays_35 : decode cX12_lays 35 = .ok (.iconst 0, 1) := by decide +kernel
theorem dX12_lays_36 : decode cX12_lays 36 = .ok (.ireturn, 1) := by decide +kernel
theorem dX12_lays_37 : decode cX12_lays 37 = .ok (.aload_n 0, 1) := by decide +kernel
theorem dX12_lays_38 : decode cX12_lays 38 = .ok (.getfield 102, 3) := by decide +kernel
theorem dX12_lays_41 : decode cX12_lays 41 = .ok (.iload_n 2, 1) := by decide +kernel
theorem dX12_lays_42 : decode cX12_lays 42 = .ok (.baload, 1) := by decide +kernel
theorem dX12_lays_43 : decode cX12_lays 43 = .ok (.ifCond .ne 15, 3) := by decide +kernel
theorem dX12_lays_46 : decode cX12_lays 46 = .ok (.aload_n 0, 1) := by decide +kernel
theorem dX12_lays_47 : decode cX12_lays 47 = .ok (.aload_n 0, 1) := by decide +kernel
theorem dX12_lays_48 : decode cX12_lays 48 = .ok (.bipush (-11), 2) := by decide +kernel
theorem dX12_lays_50 : decode cX12_lays 50 = .ok (.invokevirtual 211, 3) := by decide +kernel
theorem dX12_lays_53 : decode cX12_lays 53 = .ok (.putfield 325, 3) := by decide +kernel
theorem dX12_lays_56 : decode cX12_lays 56 = .ok (.iconst 0, 1) := by decide +kernel
theorem dX12_lays_57 : decode cX12_lays 57 = .ok (.ireturn, 1) := by decide +kernel
theorem dX12_lays_58 : decode cX12_lays 58 = .ok (.lload_n 3, 1) := by decide +kernel
theorem dX12_lays_59 : decode cX12_lays 59 = .ok (.lconst 0, 1) := by decide +kernel
theorem dX12_lays_60 : decode cX12_lays 60 = .ok (.aload_n 0, 1) := by decide +kernel
theorem dX12_lays_61 : decode cX12_lays 61 = .ok (.getfield 108, 3) := by decide +kernel
theorem dX12_lays_64 : decode cX12_lays 64 = .ok (.iload_n 2, 1) := by decide +kernel
theorem dX12_lays_65 : decode cX12_lays 65 = .ok (.iaload, 1) := by decide +kernel
theorem dX12_lays_66 : decode cX12_lays 66 = .ok (.iconst 1, 1) := by decide +kernel
theorem dX12_lays_67 : decode cX12_lays 67 = .ok (.isub, 1) := by decide +kernel
theorem dX12_lays_68 : decode cX12_lays 68 = .ok (.i2l, 1) := by decide +kernel
theorem dX12_lays_69 : decode cX12_lays 69 = .ok (.invokestatic 137, 3) := by decide +kernel
theorem dX12_lays_72 : decode cX12_lays 72 = .ok (.ifCond .ne 15, 3) := by decide +kernel
theorem dX12_lays_75 : decode cX12_lays 75 = .ok (.aload_n 0, 1) := by decide +kernel
theorem dX12_lays_76 : decode cX12_lays 76 = .ok (.aload_n 0, 1) := by decide +kernel
theorem dX12_lays_77 : decode cX12_lays 77 = .ok (.bipush (-12), 2) := by decide +kernel
theorem dX12_lays_79 : decode cX12_lays 79 = .ok (.invokevirtual 211, 3) := by decide +kernel
theorem dX12_lays_82 : decode cX12_lays 82 = .ok (.putfield 325, 3) := by decide +kernel
theorem dX12_lays_85 : decode cX12_lays 85 = .ok (.iconst 0, 1) := by decide +kernel
theorem dX12_lays_86 : decode cX12_lays 86 = .ok (.ireturn, 1) := by decide +kernel
theorem dX12_lays_87 : decode cX12_lays 87 = .ok (.aload_n 0, 1) := by decide +kernel
theorem dX12_lays_88 : decode cX12_lays 88 = .ok (.getfield 111, 3) := by decide +kernel
theorem dX12_lays_91 : decode cX12_lays 91 = .ok (.bipush 60, 2) := by decide +kernel
theorem dX12_lays_93 : decode cX12_lays 93 = .ok (.iload_n 2, 1) := by decide +kernel
theorem dX12_lays_94 : decode cX12_lays 94 = .ok (.imul, 1) := by decide +kernel
theorem dX12_lays_95 : decode cX12_lays 95 = .ok (.lload_n 3, 1) := by decide +kernel
theorem dX12_lays_96 : decode cX12_lays 96 = .ok (.l2i, 1) := by decide +kernel
theorem dX12_lays_97 : decode cX12_lays 97 = .ok (.iadd, 1) := by decide +kernel
theorem dX12_lays_98 : decode cX12_lays 98 = .ok (.aload_n 0, 1) := by decide +kernel
theorem dX12_lays_99 : decode cX12_lays 99 = .ok (.getfield 30, 3) := by decide +kernel
theorem dX12_lays_102 : decode cX12_lays 102 = .ok (.bipush 6, 2) := by decide +kernel
theorem dX12_lays_104 : decode cX12_lays 104 = .ok (.iload_n 1, 1) := by decide +kernel
theorem dX12_lays_105 : decode cX12_lays 105 = .ok (.imul, 1) := by decide +kernel
theorem dX12_lays_106 : decode cX12_lays 106 = .ok (.iaload, 1) := by decide +kernel
theorem dX12_lays_107 : decode cX12_lays 107 = .ok (.iastore, 1) := by decide +kernel
theorem dX12_lays_108 : decode cX12_lays 108 = .ok (.iconst 1, 1) := by decide +kernel
theorem dX12_lays_109 : decode cX12_lays 109 = .ok (.ireturn, 1) := by decide +kernel
theorem dX12_lay_0 : decode cX12_lay 0 = .ok (.aload_n 0, 1) := by decide +kernel
theorem dX12_lay_1 : decode cX12_lay 1 = .ok (.invokevirtual 144, 3) := by decide +kernel
theorem dX12_lay_4 : decode cX12_lay 4 = .ok (.iload_n 2, 1) := by decide +kernel
theorem dX12_lay_5 : decode cX12_lay 5 = .ok (.ifCond .eq 18, 3) := by decide +kernel
theorem dX12_lay_8 : decode cX12_lay 8 = .ok (.iload_n 1, 1) := by decide +kernel
theorem dX12_lay_9 : decode cX12_lay 9 = .ok (.i2l, 1) := by decide +kernel
theorem dX12_lay_10 : decode cX12_lay 10 = .ok (.lconst 0, 1) := by decide +kernel
theorem dX12_lay_11 : decode cX12_lay 11 = .ok (.ldc2_w 231, 3) := by decide +kernel
theorem dX12_lay_14 : decode cX12_lay 14 = .ok (.invokestatic 137, 3) := by decide +kernel
theorem dX12_lay_17 : decode cX12_lay 17 = .ok (.ifCond .eq 26, 3) := by decide +kernel
theorem dX12_lay_20 : decode cX12_lay 20 = .ok (.goto 11, 3) := by decide +kernel
theorem dX12_lay_23 : decode cX12_lay 23 = .ok (.aload_n 0, 1) := by decide +kernel
theorem dX12_lay_24 : decode cX12_lay 24 = .ok (.iload_n 1, 1) := by decide +kernel
theorem dX12_lay_25 : decode cX12_lay 25 = .ok (.invokevirtual 184, 3) := by decide +kernel
theorem dX12_lay_28 : decode cX12_lay 28 = .ok (.ifCond .eq 15, 3) := by decide +kernel
theorem dX12_lay_31 : decode cX12_lay 31 = .ok (.iload_n 3, 1) := by decide +kernel
theorem dX12_lay_32 : decode cX12_lay 32 = .ok (.i2l, 1) := by decide +kernel
theorem dX12_lay_33 : decode cX12_lay 33 = .ok (.lconst 0, 1) := by decide +kernel
theorem dX12_lay_34 : decode cX12_lay 34 = .ok (.ldc2_w 231, 3) := by decide +kernel
theorem dX12_lay_37 : decode cX12_lay 37 = .ok (.invokestatic 137, 3) := by decide +kernel
theorem dX12_lay_40 : decode cX12_lay 40 = .ok (.ifCond .ne 10, 3) := by decide +kernel
theorem dX12_lay_43 : decode cX12_lay 43 = .ok (.aload_n 0, 1) := by decide +kernel
theorem dX12_lay_44 : decode cX12_lay 44 = .ok (.bipush (-2), 2) := by decide +kernel
theorem dX12_lay_46 : decode cX12_lay 46 = .ok (.invokevirtual 130, 3) := by decide +kernel
theorem dX12_lay_49 : decode cX12_lay 49 = .ok (.ireturn, 1) := by decide +kernel
theorem dX12_lay_50 : decode cX12_lay 50 = .ok (.iload_n 2, 1) := by decide +kernel
theorem dX12_lay_51 : decode cX12_lay 51 = .ok (.ifCond .eq 24, 3) := by decide +kernel
theorem dX12_lay_54 : decode cX12_lay 54 = .ok (.aload_n 0, 1) := by decide +kernel
theorem dX12_lay_55 : decode cX12_lay 55 = .ok (.getfield 87, 3) := by decide +kernel
theorem dX12_lay_58 : decode cX12_lay 58 = .ok (.iload_n 1, 1) := by decide +kernel
theorem dX12_lay_59 : decode cX12_lay 59 = .ok (.baload, 1) := by decide +kernel
theorem dX12_lay_60 : decode cX12_lay 60 = .ok (.ifCond .ne 15, 3) := by decide +kernel
theorem dX12_lay_63 : decode cX12_lay 63 = .ok (.aload_n 0, 1) := by decide +kernel
theorem dX12_lay_64 : decode cX12_lay 64 = .ok (.aload_n 0, 1) := by decide +kernel
theorem dX12_lay_65 : decode cX12_lay 65 = .ok (.bipush (-11), 2) := by decide +kernel
theorem dX12_lay_67 : decode cX12_lay 67 = .ok (.invokevirtual 211, 3) := by decide +kernel
theorem dX12_lay_70 : decode cX12_lay 70 = .ok (.putfield 325, 3) := by decide +kernel
theorem dX12_lay_73 : decode cX12_lay 73 = .ok (.iconst 0, 1) := by decide +kernel
theorem dX12_lay_74 : decode cX12_lay 74 = .ok (.ireturn, 1) := by decide +kernel
theorem dX12_lay_75 : decode cX12_lay 75 = .ok (.iload_n 2, 1) := by decide +kernel
theorem dX12_lay_76 : decode cX12_lay 76 = .ok (.ifCond .eq 12, 3) := by decide +kernel
theorem dX12_lay_79 : decode cX12_lay 79 = .ok (.aload_n 0, 1) := by decide +kernel
theorem dX12_lay_80 : decode cX12_lay 80 = .ok (.getfield 93, 3) := by decide +kernel
theorem dX12_lay_83 : decode cX12_lay 83 = .ok (.iload_n 1, 1) := by decide +kernel
theorem dX12_lay_84 : decode cX12_lay 84 = .ok (.iaload, 1) := by decide +kernel
theorem dX12_lay_85 : decode cX12_lay 85 = .ok (.goto 9, 3) := by decide +kernel
theorem dX12_lay_88 : decode cX12_lay 88 = .ok (.aload_n 0, 1) := by decide +kernel
theorem dX12_lay_89 : decode cX12_lay 89 = .ok (.getfield 45, 3) := by decide +kernel
theorem dX12_lay_92 : decode cX12_lay 92 = .ok (.iload_n 1, 1) := by decide +kernel
theorem dX12_lay_93 : decode cX12_lay 93 = .ok (.iaload, 1) := by decide +kernel
theorem dX12_lay_94 : decode cX12_lay 94 = .ok (.istore 5, 2) := by decide +kernel
theorem dX12_lay_96 : decode cX12_lay 96 = .ok (.iconst 0, 1) := by decide +kernel
theorem dX12_lay_97 : decode cX12_lay 97 = .ok (.istore 6, 2) := by decide +kernel
theorem dX12_lay_99 : decode cX12_lay 99 = .ok (.iload 6, 2) := by decide +kernel
theorem dX12_lay_101 : decode cX12_lay 101 = .ok (.iload 5, 2) := by decide +kernel
theorem dX12_lay_103 : decode cX12_lay 103 = .ok (.if_icmp .ge 58, 3) := by decide +kernel
theorem dX12_lay_106 : decode cX12_lay 106 = .ok (.aload_n 0, 1) := by decide +kernel
theorem dX12_lay_107 : decode cX12_lay 107 = .ok (.iload_n 2, 1) := by decide +kernel
theorem dX12_lay_108 : decode cX12_lay 108 = .ok (.ifCond .eq 18, 3) := by decide +kernel
theorem dX12_lay_111 : decode cX12_lay 111 = .ok (.aload_n 0, 1) := by decide +kernel
theorem dX12_lay_112 : decode cX12_lay 112 = .ok (.getfield 96, 3) := by decide +kernel
theorem dX12_lay_115 : decode cX12_lay 115 = .ok (.bipush 20, 2) := by decide +kernel
theorem dX12_lay_117 : decode cX12_lay 117 = .ok (.iload_n 1, 1) := by decide +kernel
theorem dX12_lay_118 : decode cX12_lay 118 = .ok (.imul, 1) := by decide +kernel
theorem dX12_lay_119 : decode cX12_lay 119 = .ok (.iload 6, 2) := by decide +kernel
theorem dX12_lay_121 : decode cX12_lay 121 = .ok (.iadd, 1) := by decide +kernel
theorem dX12_lay_122 : decode cX12_lay 122 = .ok (.iaload, 1) := by decide +kernel
theorem dX12_lay_123 : decode cX12_lay 123 = .ok (.goto 15, 3) := by decide +kernel
theorem dX12_lay_126 : decode cX12_lay 126 = .ok (.aload_n 0, 1) := by decide +kernel
theorem dX12_lay_127 : decode cX12_lay 127 = .ok (.getfield 42, 3) := by decide +kernel
theorem dX12_lay_130 : decode cX12_lay 130 = .ok (.bipush 40, 2) := by decide +kernel
theorem dX12_lay_132 : decode cX12_lay 132 = .ok (.iload_n 1, 1) := by decide +kernel
theorem dX12_lay_133 : decode cX12_lay 133 = .ok (.imul, 1) := by decide +kernel
theorem dX12_lay_134 : decode cX12_lay 134 = .ok (.iload 6, 2) := by decide +kernel
theorem dX12_lay_136 : decode cX12_lay 136 = .ok (.iadd, 1) := by decide +kernel
theorem dX12_lay_137 : decode cX12_lay 137 = .ok (.iaload, 1) := by decide +kernel
theorem dX12_lay_138 : decode cX12_lay 138 = .ok (.iload_n 3, 1) := by decide +kernel
theorem dX12_lay_139 : decode cX12_lay 139 = .ok (.iload 4, 2) := by decide +kernel
theorem dX12_lay_141 : decode cX12_lay 141 = .ok (.i2l, 1) := by decide +kernel
theorem dX12_lay_142 : decode cX12_lay 142 = .ok (.iload 6, 2) := by decide +kernel
theorem dX12_lay_144 : decode cX12_lay 144 = .ok (.i2l, 1) := by decide +kernel
theorem dX12_lay_145 : decode cX12_lay 145 = .ok (.ladd, 1) := by decide +kernel
theorem dX12_lay_146 : decode cX12_lay 146 = .ok (.invokevirtual 328, 3) := by decide +kernel
theorem dX12_lay_149 : decode cX12_lay 149 = .ok (.ifCond .ne 6, 3) := by decide +kernel
theorem dX12_lay_152 : decode cX12_lay 152 = .ok (.iload 6, 2) := by decide +kernel
theorem dX12_lay_154 : decode cX12_lay 154 = .ok (.ireturn, 1) := by decide +kernel
theorem dX12_lay_155 : decode cX12_lay 155 = .ok (.iinc 6 1, 3) := by decide +kernel
theorem dX12_lay_158 : decode cX12_lay 158 = .ok (.goto (-59), 3) := by decide +kernel
theorem dX12_lay_161 : decode cX12_lay 161 = .ok (.iload 5, 2) := by decide +kernel
theorem dX12_lay_163 : decode cX12_lay 163 = .ok (.ireturn, 1) := by decide +kernel
theorem dX12_item_0 : decode cX12_item 0 = .ok (.aload_n 0, 1) := by decide +kernel
theorem dX12_item_1 : decode cX12_item 1 = .ok (.invokevirtual 144, 3) := by decide +kernel
theorem dX12_item_4 : decode cX12_item 4 = .ok (.iload_n 1, 1) := by decide +kernel
theorem dX12_item_5 : decode cX12_item 5 = .ok (.i2l, 1) := by decide +kernel
theorem dX12_item_6 : decode cX12_item 6 = .ok (.lconst 0, 1) := by decide +kernel
theorem dX12_item_7 : decode cX12_item 7 = .ok (.ldc2_w 231, 3) := by decide +kernel
theorem dX12_item_10 : decode cX12_item 10 = .ok (.invokestatic 137, 3) := by decide +kernel
theorem dX12_item_13 : decode cX12_item 13 = .ok (.ifCond .ne 13, 3) := by decide +kernel
theorem dX12_item_16 : decode cX12_item 16 = .ok (.aload_n 0, 1) := by decide +kernel
theorem dX12_item_17 : decode cX12_item 17 = .ok (.bipush (-2), 2) := by decide +kernel
theorem dX12_item_19 : decode cX12_item 19 = .ok (.putfield 127, 3) := by decide +kernel
theorem dX12_item_22 : decode cX12_item 22 = .ok (.sipush (-2000), 3) := by decide +kernel
theorem dX12_item_25 : decode cX12_item 25 = .ok (.ireturn, 1) := by decide +kernel
theorem dX12_item_26 : decode cX12_item 26 = .ok (.aload_n 0, 1) := by decide +kernel
theorem dX12_item_27 : decode cX12_item 27 = .ok (.getfield 102, 3) := by decide +kernel
theorem dX12_item_30 : decode cX12_item 30 = .ok (.iload_n 1, 1) := by decide +kernel
theorem dX12_item_31 : decode cX12_item 31 = .ok (.baload, 1) := by decide +kernel
theorem dX12_item_32 : decode cX12_item 32 = .ok (.ifCond .ne 17, 3) := by decide +kernel
theorem dX12_item_35 : decode cX12_item 35 = .ok (.aload_n 0, 1) := by decide +kernel
theorem dX12_item_36 : decode cX12_item 36 = .ok (.aload_n 0, 1) := by decide +kernel
theorem dX12_item_37 : decode cX12_item 37 = .ok (.bipush (-11), 2) := by decide +kernel
theorem dX12_item_39 : decode cX12_item 39 = .ok (.invokevirtual 211, 3) := by decide +kernel
theorem dX12_item_42 : decode cX12_item 42 = .ok (.putfield 325, 3) := by decide +kernel
theorem dX12_item_45 : decode cX12_item 45 = .ok (.sipush (-2001), 3) := by decide +kernel
theorem dX12_item_48 : decode cX12_item 48 = .ok (.ireturn, 1) := by decide +kernel
theorem dX12_item_49 : decode cX12_item 49 = .ok (.iload_n 2, 1) := by decide +kernel
theorem dX12_item_50 : decode cX12_item 50 = .ok (.i2l, 1) := by decide +kernel
theorem dX12_item_51 : decode cX12_item 51 = .ok (.lconst 0, 1) := by decide +kernel
theorem dX12_item_52 : decode cX12_item 52 = .ok (.aload_n 0, 1) := by decide +kernel
theorem dX12_item_53 : decode cX12_item 53 = .ok (.getfield 108, 3) := by decide +kernel
theorem dX12_item_56 : decode cX12_item 56 = .ok (.iload_n 1, 1) := by decide +kernel
theorem dX12_item_57 : decode cX12_item 57 = .ok (.iaload, 1) := by decide +kernel
theorem dX12_item_58 : decode cX12_item 58 = .ok (.iconst 1, 1) := by decide +kernel
theorem dX12_item_59 : decode cX12_item 59 = .ok (.isub, 1) := by decide +kernel
theorem dX12_item_60 : decode cX12_item 60 = .ok (.i2l, 1) := by decide +kernel
theorem dX12_item_61 : decode cX12_item 61 = .ok (.invokestatic 137, 3) := by decide +kernel
theorem dX12_item_64 : decode cX12_item 64 = .ok (.ifCond .ne 17, 3) := by decide +kernel
theorem dX12_item_67 : decode cX12_item 67 = .ok (.aload_n 0, 1) := by decide +kernel
theorem dX12_item_68 : decode cX12_item 68 = .ok (.aload_n 0, 1) := by decide +kernel
theorem dX12_item_69 : decode cX12_item 69 = .ok (.bipush (-12), 2) := by decide +kernel
theorem dX12_item_71 : decode cX12_item 71 = .ok (.invokevirtual 211, 3) := by decide +kernel
theorem dX12_item_74 : decode cX12_item 74 = .ok (.putfield 325, 3) := by decide +kernel
theorem dX12_item_77 : decode cX12_item 77 = .ok (.sipush (-2002), 3) := by decide +kernel
theorem dX12_item_80 : decode cX12_item 80 = .ok (.ireturn, 1) := by decide +kernel
theorem dX12_item_81 : decode cX12_item 81 = .ok (.aload_n 0, 1) := by decide +kernel
theorem dX12_item_82 : decode cX12_item 82 = .ok (.getfield 111, 3) := by decide +kernel
theorem dX12_item_85 : decode cX12_item 85 = .ok (.bipush 60, 2) := by decide +kernel
theorem dX12_item_87 : decode cX12_item 87 = .ok (.iload_n 1, 1) := by decide +kernel
theorem dX12_item_88 : decode cX12_item 88 = .ok (.imul, 1) := by decide +kernel
theorem dX12_item_89 : decode cX12_item 89 = .ok (.iload_n 2, 1) := by decide +kernel
theorem dX12_item_90 : decode cX12_item 90 = .ok (.iadd, 1) := by decide +kernel
theorem dX12_item_91 : decode cX12_item 91 = .ok (.iaload, 1) := by decide +kernel
theorem dX12_item_92 : decode cX12_item 92 = .ok (.ireturn, 1) := by decide +kernel
theorem dX12_lift_0 : decode cX12_lift 0 = .ok (.aload_n 0, 1) := by decide +kernel
theorem dX12_lift_1 : decode cX12_lift 1 = .ok (.invokevirtual 144, 3) := by decide +kernel
theorem dX12_lift_4 : decode cX12_lift 4 = .ok (.iload_n 1, 1) := by decide +kernel
theorem dX12_lift_5 : decode cX12_lift 5 = .ok (.i2l, 1) := by decide +kernel
theorem dX12_lift_6 : decode cX12_lift 6 = .ok (.lconst 0, 1) := by decide +kernel
theorem dX12_lift_7 : decode cX12_lift 7 = .ok (.ldc2_w 231, 3) := by decide +kernel
theorem dX12_lift_10 : decode cX12_lift 10 = .ok (.invokestatic 137, 3) := by decide +kernel
theorem dX12_lift_13 : decode cX12_lift 13 = .ok (.ifCond .ne 10, 3) := by decide +kernel
theorem dX12_lift_16 : decode cX12_lift 16 = .ok (.aload_n 0, 1) := by decide +kernel
theorem dX12_lift_17 : decode cX12_lift 17 = .ok (.bipush (-2), 2) := by decide +kernel
theorem dX12_lift_19 : decode cX12_lift 19 = .ok (.invokevirtual 130, 3) := by decide +kernel
theorem dX12_lift_22 : decode cX12_lift 22 = .ok (.ireturn, 1) := by decide +kernel
theorem dX12_lift_23 : decode cX12_lift 23 = .ok (.aload_n 0, 1) := by decide +kernel
theorem dX12_lift_24 : decode cX12_lift 24 = .ok (.getfield 102, 3) := by decide +kernel
theorem dX12_lift_27 : decode cX12_lift 27 = .ok (.iload_n 1, 1) := by decide +kernel
theorem dX12_lift_28 : decode cX12_lift 28 = .ok (.baload, 1) := by decide +kernel
theorem dX12_lift_29 : decode cX12_lift 29 = .ok (.ifCond .ne 10, 3) := by decide +kernel
theorem dX12_lift_32 : decode cX12_lift 32 = .ok (.aload_n 0, 1) := by decide +kernel
theorem dX12_lift_33 : decode cX12_lift 33 = .ok (.bipush (-11), 2) := by decide +kernel
theorem dX12_lift_35 : decode cX12_lift 35 = .ok (.invokevirtual 211, 3) := by decide +kernel
theorem dX12_lift_38 : decode cX12_lift 38 = .ok (.ireturn, 1) := by decide +kernel
theorem dX12_lift_39 : decode cX12_lift 39 = .ok (.iload_n 2, 1) := by decide +kernel
theorem dX12_lift_40 : decode cX12_lift 40 = .ok (.i2l, 1) := by decide +kernel
theorem dX12_lift_41 : decode cX12_lift 41 = .ok (.lconst 0, 1) := by decide +kernel
theorem dX12_lift_42 : decode cX12_lift 42 = .ok (.aload_n 0, 1) := by decide +kernel
theorem dX12_lift_43 : decode cX12_lift 43 = .ok (.getfield 108, 3) := by decide +kernel
theorem dX12_lift_46 : decode cX12_lift 46 = .ok (.iload_n 1, 1) := by decide +kernel
theorem dX12_lift_47 : decode cX12_lift 47 = .ok (.iaload, 1) := by decide +kernel
theorem dX12_lift_48 : decode cX12_lift 48 = .ok (.iconst 1, 1) := by decide +kernel
theorem dX12_lift_49 : decode cX12_lift 49 = .ok (.isub, 1) := by decide +kernel
theorem dX12_lift_50 : decode cX12_lift 50 = .ok (.i2l, 1) := by decide +kernel
theorem dX12_lift_51 : decode cX12_lift 51 = .ok (.invokestatic 137, 3) := by decide +kernel
theorem dX12_lift_54 : decode cX12_lift 54 = .ok (.ifCond .ne 10, 3) := by decide +kernel
theorem dX12_lift_57 : decode cX12_lift 57 = .ok (.aload_n 0, 1) := by decide +kernel
theorem dX12_lift_58 : decode cX12_lift 58 = .ok (.bipush (-12), 2) := by decide +kernel
theorem dX12_lift_60 : decode cX12_lift 60 = .ok (.invokevirtual 211, 3) := by decide +kernel
theorem dX12_lift_63 : decode cX12_lift 63 = .ok (.ireturn, 1) := by decide +kernel
theorem dX12_lift_64 : decode cX12_lift 64 = .ok (.aload_n 0, 1) := by decide +kernel
theorem dX12_lift_65 : decode cX12_lift 65 = .ok (.getfield 105, 3) := by decide +kernel
theorem dX12_lift_68 : decode cX12_lift 68 = .ok (.iload_n 1, 1) := by decide +kernel
theorem dX12_lift_69 : decode cX12_lift 69 = .ok (.iaload, 1) := by decide +kernel
theorem dX12_lift_70 : decode cX12_lift 70 = .ok (.istore 4, 2) := by decide +kernel
theorem dX12_lift_72 : decode cX12_lift 72 = .ok (.aload_n 0, 1) := by decide +kernel
theorem dX12_lift_73 : decode cX12_lift 73 = .ok (.getfield 111, 3) := by decide +kernel
theorem dX12_lift_76 : decode cX12_lift 76 = .ok (.bipush 60, 2) := by decide +kernel
theorem dX12_lift_78 : decode cX12_lift 78 = .ok (.iload_n 1, 1) := by decide +kernel
theorem dX12_lift_79 : decode cX12_lift 79 = .ok (.imul, 1) := by decide +kernel
theorem dX12_lift_80 : decode cX12_lift 80 = .ok (.iload_n 2, 1) := by decide +kernel
theorem dX12_lift_81 : decode cX12_lift 81 = .ok (.iadd, 1) := by decide +kernel
theorem dX12_lift_82 : decode cX12_lift 82 = .ok (.iload 4, 2) := by decide +kernel
theorem dX12_lift_84 : decode cX12_lift 84 = .ok (.ifCond .ne 8, 3) := by decide +kernel
theorem dX12_lift_87 : decode cX12_lift 87 = .ok (.iload_n 3, 1) := by decide +kernel
theorem dX12_lift_88 : decode cX12_lift 88 = .ok (.i2b, 1) := by decide +kernel
theorem dX12_lift_89 : decode cX12_lift 89 = .ok (.goto 29, 3) := by decide +kernel
theorem dX12_lift_92 : decode cX12_lift 92 = .ok (.iload 4, 2) := by decide +kernel
theorem dX12_lift_94 : decode cX12_lift 94 = .ok (.iconst 1, 1) := by decide +kernel
theorem dX12_lift_95 : decode cX12_lift 95 = .ok (.if_icmp .ne 8, 3) := by decide +kernel
theorem dX12_lift_98 : decode cX12_lift 98 = .ok (.iload_n 3, 1) := by decide +kernel
theorem dX12_lift_99 : decode cX12_lift 99 = .ok (.i2s, 1) := by decide +kernel
theorem dX12_lift_100 : decode cX12_lift 100 = .ok (.goto 18, 3) := by decide +kernel
theorem dX12_lift_103 : decode cX12_lift 103 = .ok (.iload 4, 2) := by decide +kernel
theorem dX12_lift_105 : decode cX12_lift 105 = .ok (.iconst 2, 1) := by decide +kernel
theorem dX12_lift_106 : decode cX12_lift 106 = .ok (.if_icmp .ne 11, 3) := by decide +kernel
theorem dX12_lift_109 : decode cX12_lift 109 = .ok (.iload_n 3, 1) := by decide +kernel
theorem dX12_lift_110 : decode cX12_lift 110 = .ok (.ldc_w 332, 3) := by decide +kernel
theorem dX12_lift_113 : decode cX12_lift 113 = .ok (.iand, 1) := by decide +kernel
theorem dX12_lift_114 : decode cX12_lift 114 = .ok (.goto 4, 3) := by decide +kernel
theorem dX12_lift_117 : decode cX12_lift 117 = .ok (.iload_n 3, 1) := by decide +kernel
theorem dX12_lift_118 : decode cX12_lift 118 = .ok (.iastore, 1) := by decide +kernel
theorem dX12_lift_119 : decode cX12_lift 119 = .ok (.iconst 1, 1) := by decide +kernel
theorem dX12_lift_120 : decode cX12_lift 120 = .ok (.ireturn, 1) := by decide +kernel
theorem dX12_copy_0 : decode cX12_copy 0 = .ok (.aload_n 0, 1) := by decide +kernel
theorem dX12_copy_1 : decode cX12_copy 1 = .ok (.invokevirtual 144, 3) := by decide +kernel
theorem dX12_copy_4 : decode cX12_copy 4 = .ok (.iload_n 1, 1) := by decide +kernel
theorem dX12_copy_5 : decode cX12_copy 5 = .ok (.i2l, 1) := by decide +kernel
theorem dX12_copy_6 : decode cX12_copy 6 = .ok (.lconst 0, 1) := by decide +kernel
theorem dX12_copy_7 : decode cX12_copy 7 = .ok (.ldc2_w 231, 3) := by decide +kernel
theorem dX12_copy_10 : decode cX12_copy 10 = .ok (.invokestatic 137, 3) := by decide +kernel
theorem dX12_copy_13 : decode cX12_copy 13 = .ok (.ifCond .eq 15, 3) := by decide +kernel
theorem dX12_copy_16 : decode cX12_copy 16 = .ok (.iload_n 3, 1) := by decide +kernel
theorem dX12_copy_17 : decode cX12_copy 17 = .ok (.i2l, 1) := by decide +kernel
theorem dX12_copy_18 : decode cX12_copy 18 = .ok (.lconst 0, 1) := by decide +kernel
theorem dX12_copy_19 : decode cX12_copy 19 = .ok (.ldc2_w 231, 3) := by decide +kernel
theorem dX12_copy_22 : decode cX12_copy 22 = .ok (.invokestatic 137, 3) := by decide +kernel
theorem dX12_copy_25 : decode cX12_copy 25 = .ok (.ifCond .ne 10, 3) := by decide +kernel
theorem dX12_copy_28 : decode cX12_copy 28 = .ok (.aload_n 0, 1) := by decide +kernel
theorem dX12_copy_29 : decode cX12_copy 29 = .ok (.bipush (-2), 2) := by decide +kernel
theorem dX12_copy_31 : decode cX12_copy 31 = .ok (.invokevirtual 130, 3) := by decide +kernel
theorem dX12_copy_34 : decode cX12_copy 34 = .ok (.ireturn, 1) := by decide +kernel
theorem dX12_copy_35 : decode cX12_copy 35 = .ok (.aload_n 0, 1) := by decide +kernel
theorem dX12_copy_36 : decode cX12_copy 36 = .ok (.getfield 102, 3) := by decide +kernel
theorem dX12_copy_39 : decode cX12_copy 39 = .ok (.iload_n 1, 1) := by decide +kernel
theorem dX12_copy_40 : decode cX12_copy 40 = .ok (.baload, 1) := by decide +kernel
theorem dX12_copy_41 : decode cX12_copy 41 = .ok (.ifCond .eq 12, 3) := by decide +kernel
theorem dX12_copy_44 : decode cX12_copy 44 = .ok (.aload_n 0, 1) := by decide +kernel
theorem dX12_copy_45 : decode cX12_copy 45 = .ok (.getfield 102, 3) := by decide +kernel
theorem dX12_copy_48 : decode cX12_copy 48 = .ok (.iload_n 3, 1) := by decide +kernel
theorem dX12_copy_49 : decode cX12_copy 49 = .ok (.baload, 1) := by decide +kernel
theorem dX12_copy_50 : decode cX12_copy 50 = .ok (.ifCond .ne 10, 3) := by decide +kernel
theorem dX12_copy_53 : decode cX12_copy 53 = .ok (.aload_n 0, 1) := by decide +kernel
theorem dX12_copy_54 : decode cX12_copy 54 = .ok (.bipush (-11), 2) := by decide +kernel
theorem dX12_copy_56 : decode cX12_copy 56 = .ok (.invokevirtual 211, 3) := by decide +kernel
theorem dX12_copy_59 : decode cX12_copy 59 = .ok (.ireturn, 1) := by decide +kernel
theorem dX12_copy_60 : decode cX12_copy 60 = .ok (.aload_n 0, 1) := by decide +kernel
theorem dX12_copy_61 : decode cX12_copy 61 = .ok (.getfield 105, 3) := by decide +kernel
theorem dX12_copy_64 : decode cX12_copy 64 = .ok (.iload_n 1, 1) := by decide +kernel
theorem dX12_copy_65 : decode cX12_copy 65 = .ok (.iaload, 1) := by decide +kernel
theorem dX12_copy_66 : decode cX12_copy 66 = .ok (.aload_n 0, 1) := by decide +kernel
theorem dX12_copy_67 : decode cX12_copy 67 = .ok (.getfield 105, 3) := by decide +kernel
theorem dX12_copy_70 : decode cX12_copy 70 = .ok (.iload_n 3, 1) := by decide +kernel
theorem dX12_copy_71 : decode cX12_copy 71 = .ok (.iaload, 1) := by decide +kernel
theorem dX12_copy_72 : decode cX12_copy 72 = .ok (.if_icmp .eq 10, 3) := by decide +kernel
theorem dX12_copy_75 : decode cX12_copy 75 = .ok (.aload_n 0, 1) := by decide +kernel
theorem dX12_copy_76 : decode cX12_copy 76 = .ok (.bipush (-13), 2) := by decide +kernel
theorem dX12_copy_78 : decode cX12_copy 78 = .ok (.invokevirtual 211, 3) := by decide +kernel
theorem dX12_copy_81 : decode cX12_copy 81 = .ok (.ireturn, 1) := by decide +kernel
theorem dX12_copy_82 : decode cX12_copy 82 = .ok (.iload_n 2, 1) := by decide +kernel
theorem dX12_copy_83 : decode cX12_copy 83 = .ok (.iload 5, 2) := by decide +kernel
theorem dX12_copy_85 : decode cX12_copy 85 = .ok (.aload_n 0, 1) := by decide +kernel
theorem dX12_copy_86 : decode cX12_copy 86 = .ok (.getfield 108, 3) := by decide +kernel
theorem dX12_copy_89 : decode cX12_copy 89 = .ok (.iload_n 1, 1) := by decide +kernel
theorem dX12_copy_90 : decode cX12_copy 90 = .ok (.iaload, 1) := by decide +kernel
theorem dX12_copy_91 : decode cX12_copy 91 = .ok (.invokestatic 321, 3) := by decide +kernel
theorem dX12_copy_94 : decode cX12_copy 94 = .ok (.ifCond .eq 19, 3) := by decide +kernel
theorem dX12_copy_97 : decode cX12_copy 97 = .ok (.iload 4, 2) := by decide +kernel
theorem dX12_copy_99 : decode cX12_copy 99 = .ok (.iload 5, 2) := by decide +kernel
theorem dX12_copy_101 : decode cX12_copy 101 = .ok (.aload_n 0, 1) := by decide +kernel
theorem dX12_copy_102 : decode cX12_copy 102 = .ok (.getfield 108, 3) := by decide +kernel
theorem dX12_copy_105 : decode cX12_copy 105 = .ok (.iload_n 3, 1) := by decide +kernel
theorem dX12_copy_106 : decode cX12_copy 106 = .ok (.iaload, 1) := by decide +kernel
theorem dX12_copy_107 : decode cX12_copy 107 = .ok (.invokestatic 321, 3) := by decide +kernel
theorem dX12_copy_110 : decode cX12_copy 110 = .ok (.ifCond .ne 10, 3) := by decide +kernel
theorem dX12_copy_113 : decode cX12_copy 113 = .ok (.aload_n 0, 1) := by decide +kernel
theorem dX12_copy_114 : decode cX12_copy 114 = .ok (.bipush (-12), 2) := by decide +kernel
theorem dX12_copy_116 : decode cX12_copy 116 = .ok (.invokevirtual 211, 3) := by decide +kernel
theorem dX12_copy_119 : decode cX12_copy 119 = .ok (.ireturn, 1) := by decide +kernel
theorem dX12_copy_120 : decode cX12_copy 120 = .ok (.iconst 0, 1) := by decide +kernel
theorem dX12_copy_121 : decode cX12_copy 121 = .ok (.istore 6, 2) := by decide +kernel
theorem dX12_copy_123 : decode cX12_copy 123 = .ok (.iload 6, 2) := by decide +kernel
theorem dX12_copy_125 : decode cX12_copy 125 = .ok (.iload 5, 2) := by decide +kernel
theorem dX12_copy_127 : decode cX12_copy 127 = .ok (.if_icmp .ge 30, 3) := by decide +kernel
theorem dX12_copy_130 : decode cX12_copy 130 = .ok (.aload_n 0, 1) := by decide +kernel
theorem dX12_copy_131 : decode cX12_copy 131 = .ok (.getfield 114, 3) := by decide +kernel
theorem dX12_copy_134 : decode cX12_copy 134 = .ok (.iload 6, 2) := by decide +kernel
theorem dX12_copy_136 : decode cX12_copy 136 = .ok (.aload_n 0, 1) := by decide +kernel
theorem dX12_copy_137 : decode cX12_copy 137 = .ok (.getfield 111, 3) := by decide +kernel
theorem dX12_copy_140 : decode cX12_copy 140 = .ok (.bipush 60, 2) := by decide +kernel
theorem dX12_copy_142 : decode cX12_copy 142 = .ok (.iload_n 1, 1) := by decide +kernel
theorem dX12_copy_143 : decode cX12_copy 143 = .ok (.imul, 1) := by decide +kernel
theorem dX12_copy_144 : decode cX12_copy 144 = .ok (.iload_n 2, 1) := by decide +kernel
theorem dX12_copy_145 : decode cX12_copy 145 = .ok (.iadd, 1) := by decide +kernel
theorem dX12_copy_146 : decode cX12_copy 146 = .ok (.iload 6, 2) := by decide +kernel
theorem dX12_copy_148 : decode cX12_copy 148 = .ok (.iadd, 1) := by decide +kernel
theorem dX12_copy_149 : decode cX12_copy 149 = .ok (.iaload, 1) := by decide +kernel
theorem dX12_copy_150 : decode cX12_copy 150 = .ok (.iastore, 1) := by decide +kernel
theorem dX12_copy_151 : decode cX12_copy 151 = .ok (.iinc 6 1, 3) := by decide +kernel
theorem dX12_copy_154 : decode cX12_copy 154 = .ok (.goto (-31), 3) := by decide +kernel
theorem dX12_copy_157 : decode cX12_copy 157 = .ok (.iconst 0, 1) := by decide +kernel
theorem dX12_copy_158 : decode cX12_copy 158 = .ok (.istore 6, 2) := by decide +kernel
theorem dX12_copy_160 : decode cX12_copy 160 = .ok (.iload 6, 2) := by decide +kernel
theorem dX12_copy_162 : decode cX12_copy 162 = .ok (.iload 5, 2) := by decide +kernel
theorem dX12_copy_164 : decode cX12_copy 164 = .ok (.if_icmp .ge 31, 3) := by decide +kernel
theorem dX12_copy_167 : decode cX12_copy 167 = .ok (.aload_n 0, 1) := by decide +kernel
theorem dX12_copy_168 : decode cX12_copy 168 = .ok (.getfield 111, 3) := by decide +kernel
theorem dX12_copy_171 : decode cX12_copy 171 = .ok (.bipush 60, 2) := by decide +kernel
theorem dX12_copy_173 : decode cX12_copy 173 = .ok (.iload_n 3, 1) := by decide +kernel
theorem dX12_copy_174 : decode cX12_copy 174 = .ok (.imul, 1) := by decide +kernel
theorem dX12_copy_175 : decode cX12_copy 175 = .ok (.iload 4, 2) := by decide +kernel
theorem dX12_copy_177 : decode cX12_copy 177 = .ok (.iadd, 1) := by decide +kernel
theorem dX12_copy_178 : decode cX12_copy 178 = .ok (.iload 6, 2) := by decide +kernel
theorem dX12_copy_180 : decode cX12_copy 180 = .ok (.iadd, 1) := by decide +kernel
theorem dX12_copy_181 : decode cX12_copy 181 = .ok (.aload_n 0, 1) := by decide +kernel
theorem dX12_copy_182 : decode cX12_copy 182 = .ok (.getfield 114, 3) := by decide +kernel
theorem dX12_copy_185 : decode cX12_copy 185 = .ok (.iload 6, 2) := by decide +kernel
theorem dX12_copy_187 : decode cX12_copy 187 = .ok (.iaload, 1) := by decide +kernel
theorem dX12_copy_188 : decode cX12_copy 188 = .ok (.iastore, 1) := by decide +kernel
theorem dX12_copy_189 : decode cX12_copy 189 = .ok (.iinc 6 1, 3) := by decide +kernel
theorem dX12_copy_192 : decode cX12_copy 192 = .ok (.goto (-32), 3) := by decide +kernel
theorem dX12_copy_195 : decode cX12_copy 195 = .ok (.iload 5, 2) := by decide +kernel
theorem dX12_copy_197 : decode cX12_copy 197 = .ok (.ireturn, 1) := by decide +kernel
theorem dX12_play_0 : decode cX12_play 0 = .ok (.aload_n 0, 1) := by decide +kernel
theorem dX12_play_1 : decode cX12_play 1 = .ok (.invokevirtual 144, 3) := by decide +kernel
theorem dX12_play_4 : decode cX12_play 4 = .ok (.iload_n 1, 1) := by decide +kernel
theorem dX12_play_5 : decode cX12_play 5 = .ok (.i2l, 1) := by decide +kernel
theorem dX12_play_6 : decode cX12_play 6 = .ok (.lconst 0, 1) := by decide +kernel
theorem dX12_play_7 : decode cX12_play 7 = .ok (.ldc2_w 231, 3) := by decide +kernel
theorem dX12_play_10 : decode cX12_play 10 = .ok (.invokestatic 137, 3) := by decide +kernel
theorem dX12_play_13 : decode cX12_play 13 = .ok (.ifCond .eq 11, 3) := by decide +kernel
theorem dX12_play_16 : decode cX12_play 16 = .ok (.aload_n 0, 1) := by decide +kernel
theorem dX12_play_17 : decode cX12_play 17 = .ok (.iload_n 2, 1) := by decide +kernel
theorem dX12_play_18 : decode cX12_play 18 = .ok (.invokevirtual 184, 3) := by decide +kernel
theorem dX12_play_21 : decode cX12_play 21 = .ok (.ifCond .ne 10, 3) := by decide +kernel
theorem dX12_play_24 : decode cX12_play 24 = .ok (.aload_n 0, 1) := by decide +kernel
theorem dX12_play_25 : decode cX12_play 25 = .ok (.bipush (-2), 2) := by decide +kernel
theorem dX12_play_27 : decode cX12_play 27 = .ok (.invokevirtual 130, 3) := by decide +kernel
theorem dX12_play_30 : decode cX12_play 30 = .ok (.ireturn, 1) := by decide +kernel
theorem dX12_play_31 : decode cX12_play 31 = .ok (.iconst 0, 1) := by decide +kernel
theorem dX12_play_32 : decode cX12_play 32 = .ok (.istore_n 3, 1) := by decide +kernel
theorem dX12_play_33 : decode cX12_play 33 = .ok (.iconst 0, 1) := by decide +kernel
theorem dX12_play_34 : decode cX12_play 34 = .ok (.istore 4, 2) := by decide +kernel
theorem dX12_play_36 : decode cX12_play 36 = .ok (.iload 4, 2) := by decide +kernel
theorem dX12_play_38 : decode cX12_play 38 = .ok (.aload_n 0, 1) := by decide +kernel
theorem dX12_play_39 : decode cX12_play 39 = .ok (.getfield 45, 3) := by decide +kernel
theorem dX12_play_42 : decode cX12_play 42 = .ok (.iload_n 2, 1) := by decide +kernel
theorem dX12_play_43 : decode cX12_play 43 = .ok (.iaload, 1) := by decide +kernel
theorem dX12_play_44 : decode cX12_play 44 = .ok (.if_icmp .ge 136, 3) := by decide +kernel
theorem dX12_play_47 : decode cX12_play 47 = .ok (.aload_n 0, 1) := by decide +kernel
theorem dX12_play_48 : decode cX12_play 48 = .ok (.getfield 42, 3) := by decide +kernel
theorem dX12_play_51 : decode cX12_play 51 = .ok (.bipush 40, 2) := by decide +kernel
theorem dX12_play_53 : decode cX12_play 53 = .ok (.iload_n 2, 1) := by decide +kernel
theorem dX12_play_54 : decode cX12_play 54 = .ok (.imul, 1) := by decide +kernel
theorem dX12_play_55 : decode cX12_play 55 = .ok (.iload 4, 2) := by decide +kernel
theorem dX12_play_57 : decode cX12_play 57 = .ok (.iadd, 1) := by decide +kernel
theorem dX12_play_58 : decode cX12_play 58 = .ok (.iaload, 1) := by decide +kernel
theorem dX12_play_59 : decode cX12_play 59 = .ok (.istore 5, 2) := by decide +kernel
theorem dX12_play_61 : decode cX12_play 61 = .ok (.aload_n 0, 1) := by decide +kernel
theorem dX12_play_62 : decode cX12_play 62 = .ok (.iload 5, 2) := by decide +kernel
theorem dX12_play_64 : decode cX12_play 64 = .ok (.invokevirtual 214, 3) := by decide +kernel
theorem dX12_play_67 : decode cX12_play 67 = .ok (.ifCond .eq 107, 3) := by decide +kernel
theorem dX12_play_70 : decode cX12_play 70 = .ok (.aload_n 0, 1) := by decide +kernel
theorem dX12_play_71 : decode cX12_play 71 = .ok (.getfield 102, 3) := by decide +kernel
theorem dX12_play_74 : decode cX12_play 74 = .ok (.iload_n 1, 1) := by decide +kernel
theorem dX12_play_75 : decode cX12_play 75 = .ok (.baload, 1) := by decide +kernel
theorem dX12_play_76 : decode cX12_play 76 = .ok (.ifCond .ne 15, 3) := by decide +kernel
theorem dX12_play_79 : decode cX12_play 79 = .ok (.aload_n 0, 1) := by decide +kernel
theorem dX12_play_80 : decode cX12_play 80 = .ok (.aload_n 0, 1) := by decide +kernel
theorem dX12_play_81 : decode cX12_play 81 = .ok (.bipush (-11), 2) := by decide +kernel
theorem dX12_play_83 : decode cX12_play 83 = .ok (.invokevirtual 211, 3) := by decide +kernel
theorem dX12_play_86 : decode cX12_play 86 = .ok (.putfield 325, 3) := by decide +kernel
theorem dX12_play_89 : decode cX12_play 89 = .ok (.iload_n 3, 1) := by decide +kernel
theorem dX12_play_90 : decode cX12_play 90 = .ok (.ireturn, 1) := by decide +kernel
theorem dX12_play_91 : decode cX12_play 91 = .ok (.iload_n 3, 1) := by decide +kernel
theorem dX12_play_92 : decode cX12_play 92 = .ok (.aload_n 0, 1) := by decide +kernel
theorem dX12_play_93 : decode cX12_play 93 = .ok (.getfield 108, 3) := by decide +kernel
theorem dX12_play_96 : decode cX12_play 96 = .ok (.iload_n 1, 1) := by decide +kernel
theorem dX12_play_97 : decode cX12_play 97 = .ok (.iaload, 1) := by decide +kernel
theorem dX12_play_98 : decode cX12_play 98 = .ok (.if_icmp .ne 15, 3) := by decide +kernel
theorem dX12_play_101 : decode cX12_play 101 = .ok (.aload_n 0, 1) := by decide +kernel
theorem dX12_play_102 : decode cX12_play 102 = .ok (.aload_n 0, 1) := by decide +kernel
theorem dX12_play_103 : decode cX12_play 103 = .ok (.bipush (-12), 2) := by decide +kernel
theorem dX12_play_105 : decode cX12_play 105 = .ok (.invokevirtual 211, 3) := by decide +kernel
theorem dX12_play_108 : decode cX12_play 108 = .ok (.putfield 325, 3) := by decide +kernel
theorem dX12_play_111 : decode cX12_play 111 = .ok (.iload_n 3, 1) := by decide +kernel
theorem dX12_play_112 : decode cX12_play 112 = .ok (.ireturn, 1) := by decide +kernel
theorem dX12_play_113 : decode cX12_play 113 = .ok (.aload_n 0, 1) := by decide +kernel
theorem dX12_play_114 : decode cX12_play 114 = .ok (.getfield 111, 3) := by decide +kernel
theorem dX12_play_117 : decode cX12_play 117 = .ok (.bipush 60, 2) := by decide +kernel
theorem dX12_play_119 : decode cX12_play 119 = .ok (.iload_n 1, 1) := by decide +kernel
theorem dX12_play_120 : decode cX12_play 120 = .ok (.imul, 1) := by decide +kernel
theorem dX12_play_121 : decode cX12_play 121 = .ok (.iload_n 3, 1) := by decide +kernel
theorem dX12_play_122 : decode cX12_play 122 = .ok (.iadd, 1) := by decide +kernel
theorem dX12_play_123 : decode cX12_play 123 = .ok (.iaload, 1) := by decide +kernel
theorem dX12_play_124 : decode cX12_play 124 = .ok (.i2l, 1) := by decide +kernel
theorem dX12_play_125 : decode cX12_play 125 = .ok (.aload_n 0, 1) := by decide +kernel
theorem dX12_play_126 : decode cX12_play 126 = .ok (.getfield 30, 3) := by decide +kernel
theorem dX12_play_129 : decode cX12_play 129 = .ok (.bipush 6, 2) := by decide +kernel
theorem dX12_play_131 : decode cX12_play 131 = .ok (.iload 5, 2) := by decide +kernel
theorem dX12_play_133 : decode cX12_play 133 = .ok (.imul, 1) := by decide +kernel
theorem dX12_play_134 : decode cX12_play 134 = .ok (.iaload, 1) := by decide +kernel
theorem dX12_play_135 : decode cX12_play 135 = .ok (.i2l, 1) := by decide +kernel
theorem dX12_play_136 : decode cX12_play 136 = .ok (.lsub, 1) := by decide +kernel
theorem dX12_play_137 : decode cX12_play 137 = .ok (.lstore 6, 2) := by decide +kernel
theorem dX12_play_139 : decode cX12_play 139 = .ok (.aload_n 0, 1) := by decide +kernel
theorem dX12_play_140 : decode cX12_play 140 = .ok (.iload 5, 2) := by decide +kernel
theorem dX12_play_142 : decode cX12_play 142 = .ok (.lload 6, 2) := by decide +kernel
theorem dX12_play_144 : decode cX12_play 144 = .ok (.invokevirtual 223, 3) := by decide +kernel
theorem dX12_play_147 : decode cX12_play 147 = .ok (.ifCond .ne 15, 3) := by decide +kernel
theorem dX12_play_150 : decode cX12_play 150 = .ok (.aload_n 0, 1) := by decide +kernel
theorem dX12_play_151 : decode cX12_play 151 = .ok (.aload_n 0, 1) := by decide +kernel
theorem dX12_play_152 : decode cX12_play 152 = .ok (.bipush (-12), 2) := by decide +kernel
theorem dX12_play_154 : decode cX12_play 154 = .ok (.invokevirtual 211, 3) := by decide +kernel
theorem dX12_play_157 : decode cX12_play 157 = .ok (.putfield 325, 3) := by decide +kernel
theorem dX12_play_160 : decode cX12_play 160 = .ok (.iload_n 3, 1) := by decide +kernel
theorem dX12_play_161 : decode cX12_play 161 = .ok (.ireturn, 1) := by decide +kernel
theorem dX12_play_162 : decode cX12_play 162 = .ok (.aload_n 0, 1) := by decide +kernel
theorem dX12_play_163 : decode cX12_play 163 = .ok (.iload 5, 2) := by decide +kernel
theorem dX12_play_165 : decode cX12_play 165 = .ok (.lload 6, 2) := by decide +kernel
theorem dX12_play_167 : decode cX12_play 167 = .ok (.l2i, 1) := by decide +kernel
theorem dX12_play_168 : decode cX12_play 168 = .ok (.invokevirtual 227, 3) := by decide +kernel
theorem dX12_play_171 : decode cX12_play 171 = .ok (.iinc 3 1, 3) := by decide +kernel
theorem dX12_play_174 : decode cX12_play 174 = .ok (.iinc 4 1, 3) := by decide +kernel
theorem dX12_play_177 : decode cX12_play 177 = .ok (.goto (-141), 3) := by decide +kernel
theorem dX12_play_180 : decode cX12_play 180 = .ok (.iload_n 3, 1) := by decide +kernel
theorem dX12_play_181 : decode cX12_play 181 = .ok (.ireturn, 1) := by decide +kernel
theorem dX12_failures_0 : decode cX12_failures 0 = .ok (.aload_n 0, 1) := by decide +kernel
theorem dX12_failures_1 : decode cX12_failures 1 = .ok (.iconst 0, 1) := by decide +kernel
theorem dX12_failures_2 : decode cX12_failures 2 = .ok (.putfield 123, 3) := by decide +kernel
theorem dX12_failures_5 : decode cX12_failures 5 = .ok (.iload_n 1, 1) := by decide +kernel
theorem dX12_failures_6 : decode cX12_failures 6 = .ok (.i2l, 1) := by decide +kernel
theorem dX12_failures_7 : decode cX12_failures 7 = .ok (.lconst 0, 1) := by decide +kernel
theorem dX12_failures_8 : decode cX12_failures 8 = .ok (.ldc2_w 172, 3) := by decide +kernel
theorem dX12_failures_11 : decode cX12_failures 11 = .ok (.invokestatic 137, 3) := by decide +kernel
theorem dX12_failures_14 : decode cX12_failures 14 = .ok (.ifCond .eq 12, 3) := by decide +kernel
theorem dX12_failures_17 : decode cX12_failures 17 = .ok (.aload_n 0, 1) := by decide +kernel
theorem dX12_failures_18 : decode cX12_failures 18 = .ok (.getfield 117, 3) := by decide +kernel
theorem dX12_failures_21 : decode cX12_failures 21 = .ok (.iload_n 1, 1) := by decide +kernel
theorem dX12_failures_22 : decode cX12_failures 22 = .ok (.iaload, 1) := by decide +kernel
theorem dX12_failures_23 : decode cX12_failures 23 = .ok (.goto 5, 3) := by decide +kernel
theorem dX12_failures_26 : decode cX12_failures 26 = .ok (.bipush (-2), 2) := by decide +kernel
theorem dX12_failures_28 : decode cX12_failures 28 = .ok (.ireturn, 1) := by decide +kernel
theorem dX12_status_0 : decode cX12_status 0 = .ok (.aload_n 0, 1) := by decide +kernel
theorem dX12_status_1 : decode cX12_status 1 = .ok (.iconst 0, 1) := by decide +kernel
theorem dX12_status_2 : decode cX12_status 2 = .ok (.putfield 123, 3) := by decide +kernel
theorem dX12_status_5 : decode cX12_status 5 = .ok (.aload_n 0, 1) := by decide +kernel
theorem dX12_status_6 : decode cX12_status 6 = .ok (.getfield 127, 3) := by decide +kernel
theorem dX12_status_9 : decode cX12_status 9 = .ok (.ireturn, 1) := by decide +kernel
theorem dX12_trace_0 : decode cX12_trace 0 = .ok (.aload_n 0, 1) := by decide +kernel
theorem dX12_trace_1 : decode cX12_trace 1 = .ok (.iconst 0, 1) := by decide +kernel
theorem dX12_trace_2 : decode cX12_trace 2 = .ok (.putfield 123, 3) := by decide +kernel
theorem dX12_trace_5 : decode cX12_trace 5 = .ok (.aload_n 0, 1) := by decide +kernel
theorem dX12_trace_6 : decode cX12_trace 6 = .ok (.getfield 156, 3) := by decide +kernel
theorem dX12_trace_9 : decode cX12_trace 9 = .ok (.lreturn, 1) := by decide +kernel
theorem dX12_count_0 : decode cX12_count 0 = .ok (.aload_n 0, 1) := by decide +kernel
theorem dX12_count_1 : decode cX12_count 1 = .ok (.iconst 0, 1) := by decide +kernel
theorem dX12_count_2 : decode cX12_count 2 = .ok (.putfield 123, 3) := by decide +kernel
theorem dX12_count_5 : decode cX12_count 5 = .ok (.iload_n 1, 1) := by decide +kernel
theorem dX12_count_6 : decode cX12_count 6 = .ok (.tableswitch 77 0 6 #[42, 47, 52, 57, 62, 67, 72], 42) := by decide +kernel
theorem dX12_count_48 : decode cX12_count 48 = .ok (.aload_n 0, 1) := by decide +kernel
theorem dX12_count_49 : decode cX12_count 49 = .ok (.getfield 134, 3) := by decide +kernel
theorem dX12_count_52 : decode cX12_count 52 = .ok (.ireturn, 1) := by decide +kernel
theorem dX12_count_53 : decode cX12_count 53 = .ok (.aload_n 0, 1) := by decide +kernel
theorem dX12_count_54 : decode cX12_count 54 = .ok (.getfield 151, 3) := by decide +kernel
theorem dX12_count_57 : decode cX12_count 57 = .ok (.ireturn, 1) := by decide +kernel
theorem dX12_count_58 : decode cX12_count 58 = .ok (.aload_n 0, 1) := by decide +kernel
theorem dX12_count_59 : decode cX12_count 59 = .ok (.getfield 190, 3) := by decide +kernel
theorem dX12_count_62 : decode cX12_count 62 = .ok (.ireturn, 1) := by decide +kernel
theorem dX12_count_63 : decode cX12_count 63 = .ok (.aload_n 0, 1) := by decide +kernel
theorem dX12_count_64 : decode cX12_count 64 = .ok (.getfield 141, 3) := by decide +kernel
theorem dX12_count_67 : decode cX12_count 67 = .ok (.ireturn, 1) := by decide +kernel
theorem dX12_count_68 : decode cX12_count 68 = .ok (.aload_n 0, 1) := by decide +kernel
theorem dX12_count_69 : decode cX12_count 69 = .ok (.getfield 202, 3) := by decide +kernel
theorem dX12_count_72 : decode cX12_count 72 = .ok (.ireturn, 1) := by decide +kernel
theorem dX12_count_73 : decode cX12_count 73 = .ok (.aload_n 0, 1) := by decide +kernel
theorem dX12_count_74 : decode cX12_count 74 = .ok (.getfield 208, 3) := by decide +kernel
theorem dX12_count_77 : decode cX12_count 77 = .ok (.ireturn, 1) := by decide +kernel
theorem dX12_count_78 : decode cX12_count 78 = .ok (.aload_n 0, 1) := by decide +kernel
theorem dX12_count_79 : decode cX12_count 79 = .ok (.getfield 289, 3) := by decide +kernel
theorem dX12_count_82 : decode cX12_count 82 = .ok (.ireturn, 1) := by decide +kernel
theorem dX12_count_83 : decode cX12_count 83 = .ok (.bipush (-2), 2) := by decide +kernel
theorem dX12_count_85 : decode cX12_count 85 = .ok (.ireturn, 1) := by decide +kernel
theorem dJ6_bitCount_0f7a4_0 : decode cJ6_bitCount_0f7a4 0 = .ok (.iload_n 0, 1) := by decide +kernel
theorem dJ6_bitCount_0f7a4_1 : decode cJ6_bitCount_0f7a4 1 = .ok (.iload_n 0, 1) := by decide +kernel
theorem dJ6_bitCount_0f7a4_2 : decode cJ6_bitCount_0f7a4 2 = .ok (.iconst 1, 1) := by decide +kernel
theorem dJ6_bitCount_0f7a4_3 : decode cJ6_bitCount_0f7a4 3 = .ok (.iushr, 1) := by decide +kernel
theorem dJ6_bitCount_0f7a4_4 : decode cJ6_bitCount_0f7a4 4 = .ok (.ldc_w 265, 3) := by decide +kernel
theorem dJ6_bitCount_0f7a4_7 : decode cJ6_bitCount_0f7a4 7 = .ok (.iand, 1) := by decide +kernel
theorem dJ6_bitCount_0f7a4_8 : decode cJ6_bitCount_0f7a4 8 = .ok (.isub, 1) := by decide +kernel
theorem dJ6_bitCount_0f7a4_9 : decode cJ6_bitCount_0f7a4 9 = .ok (.istore_n 0, 1) := by decide +kernel
theorem dJ6_bitCount_0f7a4_10 : decode cJ6_bitCount_0f7a4 10 = .ok (.iload_n 0, 1) := by decide +kernel
theorem dJ6_bitCount_0f7a4_11 : decode cJ6_bitCount_0f7a4 11 = .ok (.ldc_w 266, 3) := by decide +kernel
theorem dJ6_bitCount_0f7a4_14 : decode cJ6_bitCount_0f7a4 14 = .ok (.iand, 1) := by decide +kernel
theorem dJ6_bitCount_0f7a4_15 : decode cJ6_bitCount_0f7a4 15 = .ok (.iload_n 0, 1) := by decide +kernel
theorem dJ6_bitCount_0f7a4_16 : decode cJ6_bitCount_0f7a4 16 = .ok (.iconst 2, 1) := by decide +kernel
theorem dJ6_bitCount_0f7a4_17 : decode cJ6_bitCount_0f7a4 17 = .ok (.iushr, 1) := by decide +kernel
theorem dJ6_bitCount_0f7a4_18 : decode cJ6_bitCount_0f7a4 18 = .ok (.ldc_w 266, 3) := by decide +kernel
theorem dJ6_bitCount_0f7a4_21 : decode cJ6_bitCount_0f7a4 21 = .ok (.iand, 1) := by decide +kernel
theorem dJ6_bitCount_0f7a4_22 : decode cJ6_bitCount_0f7a4 22 = .ok (.iadd, 1) := by decide +kernel
theorem dJ6_bitCount_0f7a4_23 : decode cJ6_bitCount_0f7a4 23 = .ok (.istore_n 0, 1) := by decide +kernel
theorem dJ6_bitCount_0f7a4_24 : decode cJ6_bitCount_0f7a4 24 = .ok (.iload_n 0, 1) := by decide +kernel
theorem dJ6_bitCount_0f7a4_25 : decode cJ6_bitCount_0f7a4 25 = .ok (.iload_n 0, 1) := by decide +kernel
theorem dJ6_bitCount_0f7a4_26 : decode cJ6_bitCount_0f7a4 26 = .ok (.iconst 4, 1) := by decide +kernel
theorem dJ6_bitCount_0f7a4_27 : decode cJ6_bitCount_0f7a4 27 = .ok (.iushr, 1) := by decide +kernel
theorem dJ6_bitCount_0f7a4_28 : decode cJ6_bitCount_0f7a4 28 = .ok (.iadd, 1) := by decide +kernel
theorem dJ6_bitCount_0f7a4_29 : decode cJ6_bitCount_0f7a4 29 = .ok (.ldc_w 267, 3) := by decide +kernel
theorem dJ6_bitCount_0f7a4_32 : decode cJ6_bitCount_0f7a4 32 = .ok (.iand, 1) := by decide +kernel
theorem dJ6_bitCount_0f7a4_33 : decode cJ6_bitCount_0f7a4 33 = .ok (.istore_n 0, 1) := by decide +kernel
theorem dJ6_bitCount_0f7a4_34 : decode cJ6_bitCount_0f7a4 34 = .ok (.iload_n 0, 1) := by decide +kernel
theorem dJ6_bitCount_0f7a4_35 : decode cJ6_bitCount_0f7a4 35 = .ok (.iload_n 0, 1) := by decide +kernel
theorem dJ6_bitCount_0f7a4_36 : decode cJ6_bitCount_0f7a4 36 = .ok (.bipush 8, 2) := by decide +kernel
theorem dJ6_bitCount_0f7a4_38 : decode cJ6_bitCount_0f7a4 38 = .ok (.iushr, 1) := by decide +kernel
theorem dJ6_bitCount_0f7a4_39 : decode cJ6_bitCount_0f7a4 39 = .ok (.iadd, 1) := by decide +kernel
theorem dJ6_bitCount_0f7a4_40 : decode cJ6_bitCount_0f7a4 40 = .ok (.istore_n 0, 1) := by decide +kernel
theorem dJ6_bitCount_0f7a4_41 : decode cJ6_bitCount_0f7a4 41 = .ok (.iload_n 0, 1) := by decide +kernel
theorem dJ6_bitCount_0f7a4_42 : decode cJ6_bitCount_0f7a4 42 = .ok (.iload_n 0, 1) := by decide +kernel
theorem dJ6_bitCount_0f7a4_43 : decode cJ6_bitCount_0f7a4 43 = .ok (.bipush 16, 2) := by decide +kernel
theorem dJ6_bitCount_0f7a4_45 : decode cJ6_bitCount_0f7a4 45 = .ok (.iushr, 1) := by decide +kernel
theorem dJ6_bitCount_0f7a4_46 : decode cJ6_bitCount_0f7a4 46 = .ok (.iadd, 1) := by decide +kernel
theorem dJ6_bitCount_0f7a4_47 : decode cJ6_bitCount_0f7a4 47 = .ok (.istore_n 0, 1) := by decide +kernel
theorem dJ6_bitCount_0f7a4_48 : decode cJ6_bitCount_0f7a4 48 = .ok (.iload_n 0, 1) := by decide +kernel
theorem dJ6_bitCount_0f7a4_49 : decode cJ6_bitCount_0f7a4 49 = .ok (.bipush 63, 2) := by decide +kernel
theorem dJ6_bitCount_0f7a4_51 : decode cJ6_bitCount_0f7a4 51 = .ok (.iand, 1) := by decide +kernel
theorem dJ6_bitCount_0f7a4_52 : decode cJ6_bitCount_0f7a4 52 = .ok (.ireturn, 1) := by decide +kernel
theorem dJ9_max_7cf53_0 : decode cJ9_max_7cf53 0 = .ok (.iload_n 0, 1) := by decide +kernel
theorem dJ9_max_7cf53_1 : decode cJ9_max_7cf53 1 = .ok (.iload_n 1, 1) := by decide +kernel
theorem dJ9_max_7cf53_2 : decode cJ9_max_7cf53 2 = .ok (.if_icmp .lt 7, 3) := by decide +kernel
theorem dJ9_max_7cf53_5 : decode cJ9_max_7cf53 5 = .ok (.iload_n 0, 1) := by decide +kernel
theorem dJ9_max_7cf53_6 : decode cJ9_max_7cf53 6 = .ok (.goto 4, 3) := by decide +kernel
theorem dJ9_max_7cf53_9 : decode cJ9_max_7cf53 9 = .ok (.iload_n 1, 1) := by decide +kernel
theorem dJ9_max_7cf53_10 : decode cJ9_max_7cf53 10 = .ok (.ireturn, 1) := by decide +kernel
theorem dJ9_max_f86c9_0 : decode cJ9_max_f86c9 0 = .ok (.lload_n 0, 1) := by decide +kernel
theorem dJ9_max_f86c9_1 : decode cJ9_max_f86c9 1 = .ok (.lload_n 2, 1) := by decide +kernel
theorem dJ9_max_f86c9_2 : decode cJ9_max_f86c9 2 = .ok (.lcmp, 1) := by decide +kernel
theorem dJ9_max_f86c9_3 : decode cJ9_max_f86c9 3 = .ok (.ifCond .lt 7, 3) := by decide +kernel
theorem dJ9_max_f86c9_6 : decode cJ9_max_f86c9 6 = .ok (.lload_n 0, 1) := by decide +kernel
theorem dJ9_max_f86c9_7 : decode cJ9_max_f86c9 7 = .ok (.goto 4, 3) := by decide +kernel
theorem dJ9_max_f86c9_10 : decode cJ9_max_f86c9 10 = .ok (.lload_n 2, 1) := by decide +kernel
theorem dJ9_max_f86c9_11 : decode cJ9_max_f86c9 11 = .ok (.lreturn, 1) := by decide +kernel
theorem dJ9_min_7cf53_0 : decode cJ9_min_7cf53 0 = .ok (.iload_n 0, 1) := by decide +kernel
theorem dJ9_min_7cf53_1 : decode cJ9_min_7cf53 1 = .ok (.iload_n 1, 1) := by decide +kernel
theorem dJ9_min_7cf53_2 : decode cJ9_min_7cf53 2 = .ok (.if_icmp .gt 7, 3) := by decide +kernel
theorem dJ9_min_7cf53_5 : decode cJ9_min_7cf53 5 = .ok (.iload_n 0, 1) := by decide +kernel
theorem dJ9_min_7cf53_6 : decode cJ9_min_7cf53 6 = .ok (.goto 4, 3) := by decide +kernel
theorem dJ9_min_7cf53_9 : decode cJ9_min_7cf53 9 = .ok (.iload_n 1, 1) := by decide +kernel
theorem dJ9_min_7cf53_10 : decode cJ9_min_7cf53 10 = .ok (.ireturn, 1) := by decide +kernel
theorem dJ7_fill_53178_0 : decode cJ7_fill_53178 0 = .ok (.iconst 0, 1) := by decide +kernel
theorem dJ7_fill_53178_1 : decode cJ7_fill_53178 1 = .ok (.istore_n 2, 1) := by decide +kernel
theorem dJ7_fill_53178_2 : decode cJ7_fill_53178 2 = .ok (.aload_n 0, 1) := by decide +kernel
theorem dJ7_fill_53178_3 : decode cJ7_fill_53178 3 = .ok (.arraylength, 1) := by decide +kernel
theorem dJ7_fill_53178_4 : decode cJ7_fill_53178 4 = .ok (.istore_n 3, 1) := by decide +kernel
theorem dJ7_fill_53178_5 : decode cJ7_fill_53178 5 = .ok (.iload_n 2, 1) := by decide +kernel
theorem dJ7_fill_53178_6 : decode cJ7_fill_53178 6 = .ok (.iload_n 3, 1) := by decide +kernel
theorem dJ7_fill_53178_7 : decode cJ7_fill_53178 7 = .ok (.if_icmp .ge 13, 3) := by decide +kernel
theorem dJ7_fill_53178_10 : decode cJ7_fill_53178 10 = .ok (.aload_n 0, 1) := by decide +kernel
theorem dJ7_fill_53178_11 : decode cJ7_fill_53178 11 = .ok (.iload_n 2, 1) := by decide +kernel
theorem dJ7_fill_53178_12 : decode cJ7_fill_53178 12 = .ok (.iload_n 1, 1) := by decide +kernel
theorem dJ7_fill_53178_13 : decode cJ7_fill_53178 13 = .ok (.iastore, 1) := by decide +kernel
theorem dJ7_fill_53178_14 : decode cJ7_fill_53178 14 = .ok (.iinc 2 1, 3) := by decide +kernel
theorem dJ7_fill_53178_17 : decode cJ7_fill_53178 17 = .ok (.goto (-12), 3) := by decide +kernel
theorem dJ7_fill_53178_20 : decode cJ7_fill_53178 20 = .ok (.return_, 1) := by decide +kernel
theorem dL_law_0 : decode cL_law 0 = .ok (.new 7, 3) := by decide +kernel
theorem dL_law_3 : decode cL_law 3 = .ok (.dup, 1) := by decide +kernel
theorem dL_law_4 : decode cL_law 4 = .ok (.invokespecial 9, 3) := by decide +kernel
theorem dL_law_7 : decode cL_law 7 = .ok (.astore_n 1, 1) := by decide +kernel
theorem dL_law_8 : decode cL_law 8 = .ok (.new 10, 3) := by decide +kernel
theorem dL_law_11 : decode cL_law 11 = .ok (.dup, 1) := by decide +kernel
theorem dL_law_12 : decode cL_law 12 = .ok (.invokespecial 12, 3) := by decide +kernel
theorem dL_law_15 : decode cL_law 15 = .ok (.astore_n 2, 1) := by decide +kernel
theorem dL_law_16 : decode cL_law 16 = .ok (.iconst 0, 1) := by decide +kernel
theorem dL_law_17 : decode cL_law 17 = .ok (.istore_n 3, 1) := by decide +kernel
theorem dL_law_18 : decode cL_law 18 = .ok (.iload_n 3, 1) := by decide +kernel
theorem dL_law_19 : decode cL_law 19 = .ok (.aload_n 0, 1) := by decide +kernel
theorem dL_law_20 : decode cL_law 20 = .ok (.arraylength, 1) := by decide +kernel
theorem dL_law_21 : decode cL_law 21 = .ok (.bipush 7, 2) := by decide +kernel
theorem dL_law_23 : decode cL_law 23 = .ok (.isub, 1) := by decide +kernel
theorem dL_law_24 : decode cL_law 24 = .ok (.if_icmp .gt 1666, 3) := by decide +kernel
theorem dL_law_27 : decode cL_law 27 = .ok (.aload_n 0, 1) := by decide +kernel
theorem dL_law_28 : decode cL_law 28 = .ok (.iload_n 3, 1) := by decide +kernel
theorem dL_law_29 : decode cL_law 29 = .ok (.iaload, 1) := by decide +kernel
theorem dL_law_30 : decode cL_law 30 = .ok (.bipush 63, 2) := by decide +kernel
theorem dL_law_32 : decode cL_law 32 = .ok (.iand, 1) := by decide +kernel
theorem dL_law_33 : decode cL_law 33 = .ok (.tableswitch 1651 0 40 #[179, 202, 235, 310, 333, 366, 399, 432, 465, 498, 547, 590, 623, 657, 691, 724, 767, 842, 865, 898, 941, 974, 1007, 1020, 1043, 1056, 1089, 1122, 1165, 1208, 1241, 1294, 1337, 1406, 1439, 1482, 1545, 1578, 1601, 1614, 1628], 179) := by decide +kernel
theorem dL_law_212 : decode cL_law 212 = .ok (.aload_n 1, 1) := by decide +kernel
theorem dL_law_213 : decode cL_law 213 = .ok (.aload_n 0, 1) := by decide +kernel
theorem dL_law_214 : decode cL_law 214 = .ok (.iload_n 3, 1) := by decide +kernel
theorem dL_law_215 : decode cL_law 215 = .ok (.iconst 1, 1) := by decide +kernel
theorem dL_law_216 : decode cL_law 216 = .ok (.iadd, 1) := by decide +kernel
theorem dL_law_217 : decode cL_law 217 = .ok (.iaload, 1) := by decide +kernel
theorem dL_law_218 : decode cL_law 218 = .ok (.invokevirtual 13, 3) := by decide +kernel
theorem dL_law_221 : decode cL_law 221 = .ok (.aload_n 2, 1) := by decide +kernel
theorem dL_law_222 : decode cL_law 222 = .ok (.aload_n 0, 1) := by decide +kernel
theorem dL_law_223 : decode cL_law 223 = .ok (.iload_n 3, 1) := by decide +kernel
theorem dL_law_224 : decode cL_law 224 = .ok (.iconst 1, 1) := by decide +kernel
theorem dL_law_225 : decode cL_law 225 = .ok (.iadd, 1) := by decide +kernel
theorem dL_law_226 : decode cL_law 226 = .ok (.iaload, 1) := by decide +kernel
theorem dL_law_227 : decode cL_law 227 = .ok (.invokevirtual 17, 3) := by decide +kernel
theorem dL_law_230 : decode cL_law 230 = .ok (.if_icmp .eq 1454, 3) := by decide +kernel
theorem dL_law_233 : decode cL_law 233 = .ok (.iconst 0, 1) := by decide +kernel
theorem dL_law_234 : decode cL_law 234 = .ok (.ireturn, 1) := by decide +kernel
theorem dL_law_235 : decode cL_law 235 = .ok (.aload_n 1, 1) := by decide +kernel
theorem dL_law_236 : decode cL_law 236 = .ok (.aload_n 0, 1) := by decide +kernel
theorem dL_law_237 : decode cL_law 237 = .ok (.iload_n 3, 1) := by decide +kernel
theorem dL_law_238 : decode cL_law 238 = .ok (.iconst 1, 1) := by decide +kernel
theorem dL_law_239 : decode cL_law 239 = .ok (.iadd, 1) := by decide +kernel
theorem dL_law_240 : decode cL_law 240 = .ok (.iaload, 1) := by decide +kernel
theorem dL_law_241 : decode cL_law 241 = .ok (.aload_n 0, 1) := by decide +kernel
theorem dL_law_242 : decode cL_law 242 = .ok (.iload_n 3, 1) := by decide +kernel
theorem dL_law_243 : decode cL_law 243 = .ok (.iconst 2, 1) := by decide +kernel
theorem dL_law_244 : decode cL_law 244 = .ok (.iadd, 1) := by decide +kernel
theorem dL_law_245 : decode cL_law 245 = .ok (.iaload, 1) := by decide +kernel
theorem dL_law_246 : decode cL_law 246 = .ok (.invokevirtual 18, 3) := by decide +kernel
theorem dL_law_249 : decode cL_law 249 = .ok (.aload_n 2, 1) := by decide +kernel
theorem dL_law_250 : decode cL_law 250 = .ok (.aload_n 0, 1) := by decide +kernel
theorem dL_law_251 : decode cL_law 251 = .ok (.iload_n 3, 1) := by decide +kernel
theorem dL_law_252 : decode cL_law 252 = .ok (.iconst 1, 1) := by decide +kernel
theorem dL_law_253 : decode cL_law 253 = .ok (.iadd, 1) := by decide +kernel
theorem dL_law_254 : decode cL_law 254 = .ok (.iaload, 1) := by decide +kernel
theorem dL_law_255 : decode cL_law 255 = .ok (.aload_n 0, 1) := by decide +kernel
theorem dL_law_256 : decode cL_law 256 = .ok (.iload_n 3, 1) := by decide +kernel
theorem dL_law_257 : decode cL_law 257 = .ok (.iconst 2, 1) := by decide +kernel
theorem dL_law_258 : decode cL_law 258 = .ok (.iadd, 1) := by decide +kernel
theorem dL_law_259 : decode cL_law 259 = .ok (.iaload, 1) := by decide +kernel
theorem dL_law_260 : decode cL_law 260 = .ok (.invokevirtual 22, 3) := by decide +kernel
theorem dL_law_263 : decode cL_law 263 = .ok (.if_icmp .eq 1421, 3) := by decide +kernel
theorem dL_law_266 : decode cL_law 266 = .ok (.iconst 0, 1) := by decide +kernel
theorem dL_law_267 : decode cL_law 267 = .ok (.ireturn, 1) := by decide +kernel
theorem dL_law_268 : decode cL_law 268 = .ok (.aload_n 1, 1) := by decide +kernel
theorem dL_law_269 : decode cL_law 269 = .ok (.aload_n 0, 1) := by decide +kernel
theorem dL_law_270 : decode cL_law 270 = .ok (.iload_n 3, 1) := by decide +kernel
theorem dL_law_271 : decode cL_law 271 = .ok (.iconst 1, 1) := by decide +kernel
theorem dL_law_272 : decode cL_law 272 = .ok (.iadd, 1) := by decide +kernel
theorem dL_law_273 : decode cL_law 273 = .ok (.iaload, 1) := by decide +kernel
theorem dL_law_274 : decode cL_law 274 = .ok (.aload_n 0, 1) := by decide +kernel
theorem dL_law_275 : decode cL_law 275 = .ok (.iload_n 3, 1) := by decide +kernel
theorem dL_law_276 : decode cL_law 276 = .ok (.iconst 2, 1) := by decide +kernel
theorem dL_law_277 : decode cL_law 277 = .ok (.iadd, 1) := by decide +kernel
theorem dL_law_278 : decode cL_law 278 = .ok (.iaload, 1) := by decide +kernel
theorem dL_law_279 : decode cL_law 279 = .ok (.aload_n 0, 1) := by decide +kernel
theorem dL_law_280 : decode cL_law 280 = .ok (.iload_n 3, 1) := by decide +kernel
theorem dL_law_281 : decode cL_law 281 = .ok (.iconst 3, 1) := by decide +kernel
theorem dL_law_282 : decode cL_law 282 = .ok (.iadd, 1) := by decide +kernel
theorem dL_law_283 : decode cL_law 283 = .ok (.iaload, 1) := by decide +kernel
theorem dL_law_284 : decode cL_law 284 = .ok (.aload_n 0, 1) := by decide +kernel
theorem dL_law_285 : decode cL_law 285 = .ok (.iload_n 3, 1) := by decide +kernel
theorem dL_law_286 : decode cL_law 286 = .ok (.iconst 4, 1) := by decide +kernel
theorem dL_law_287 : decode cL_law 287 = .ok (.iadd, 1) := by decide +kernel
theorem dL_law_288 : decode cL_law 288 = .ok (.iaload, 1) := by decide +kernel
theorem dL_law_289 : decode cL_law 289 = .ok (.aload_n 0, 1) := by decide +kernel
theorem dL_law_290 : decode cL_law 290 = .ok (.iload_n 3, 1) := by decide +kernel
theorem dL_law_291 : decode cL_law 291 = .ok (.iconst 5, 1) := by decide +kernel
theorem dL_law_292 : decode cL_law 292 = .ok (.iadd, 1) := by decide +kernel
theorem dL_law_293 : decode cL_law 293 = .ok (.iaload, 1) := by decide +kernel
theorem dL_law_294 : decode cL_law 294 = .ok (.aload_n 0, 1) := by decide +kernel
theorem dL_law_295 : decode cL_law 295 = .ok (.iload_n 3, 1) := by decide +kernel
theorem dL_law_296 : decode cL_law 296 = .ok (.bipush 6, 2) := by decide +kernel
theorem dL_law_298 : decode cL_law 298 = .ok (.iadd, 1) := by decide +kernel
theorem dL_law_299 : decode cL_law 299 = .ok (.iaload, 1) := by decide +kernel
theorem dL_law_300 : decode cL_law 300 = .ok (.invokevirtual 23, 3) := by decide +kernel
theorem dL_law_303 : decode cL_law 303 = .ok (.aload_n 2, 1) := by decide +kernel
theorem dL_law_304 : decode cL_law 304 = .ok (.aload_n 0, 1) := by decide +kernel
theorem dL_law_305 : decode cL_law 305 = .ok (.iload_n 3, 1) := by decide +kernel
theorem dL_law_306 : decode cL_law 306 = .ok (.iconst 1, 1) := by decide +kernel
theorem dL_law_307 : decode cL_law 307 = .ok (.iadd, 1) := by decide +kernel
theorem dL_law_308 : decode cL_law 308 = .ok (.iaload, 1) := by decide +kernel
theorem dL_law_309 : decode cL_law 309 = .ok (.aload_n 0, 1) := by decide +kernel
theorem dL_law_310 : decode cL_law 310 = .ok (.iload_n 3, 1) := by decide +kernel
theorem dL_law_311 : decode cL_law 311 = .ok (.iconst 2, 1) := by decide +kernel
theorem dL_law_312 : decode cL_law 312 = .ok (.iadd, 1) := by decide +kernel
theorem dL_law_313 : decode cL_law 313 = .ok (.iaload, 1) := by decide +kernel
theorem dL_law_314 : decode cL_law 314 = .ok (.aload_n 0, 1) := by decide +kernel
theorem dL_law_315 : decode cL_law 315 = .ok (.iload_n 3, 1) := by decide +kernel
theorem dL_law_316 : decode cL_law 316 = .ok (.iconst 3, 1) := by decide +kernel
theorem dL_law_317 : decode cL_law 317 = .ok (.iadd, 1) := by decide +kernel
theorem dL_law_318 : decode cL_law 318 = .ok (.iaload, 1) := by decide +kernel
theorem dL_law_319 : decode cL_law 319 = .ok (.aload_n 0, 1) := by decide +kernel
theorem dL_law_320 : decode cL_law 320 = .ok (.iload_n 3, 1) := by decide +kernel
theorem dL_law_321 : decode cL_law 321 = .ok (.iconst 4, 1) := by decide +kernel
theorem dL_law_322 : decode cL_law 322 = .ok (.iadd, 1) := by decide +kernel
theorem dL_law_323 : decode cL_law 323 = .ok (.iaload, 1) := by decide +kernel
theorem dL_law_324 : decode cL_law 324 = .ok (.aload_n 0, 1) := by decide +kernel
theorem dL_law_325 : decode cL_law 325 = .ok (.iload_n 3, 1) := by decide +kernel
theorem dL_law_326 : decode cL_law 326 = .ok (.iconst 5, 1) := by decide +kernel
theorem dL_law_327 : decode cL_law 327 = .ok (.iadd, 1) := by decide +kernel
theorem dL_law_328 : decode cL_law 328 = .ok (.iaload, 1) := by decide +kernel
theorem dL_law_329 : decode cL_law 329 = .ok (.aload_n 0, 1) := by decide +kernel
theorem dL_law_330 : decode cL_law 330 = .ok (.iload_n 3, 1) := by decide +kernel
theorem dL_law_331 : decode cL_law 331 = .ok (.bipush 6, 2) := by decide +kernel
theorem dL_law_333 : decode cL_law 333 = .ok (.iadd, 1) := by decide +kernel
theorem dL_law_334 : decode cL_law 334 = .ok (.iaload, 1) := by decide +kernel
theorem dL_law_335 : decode cL_law 335 = .ok (.invokevirtual 27, 3) := by decide +kernel
theorem dL_law_338 : decode cL_law 338 = .ok (.if_icmp .eq 1346, 3) := by decide +kernel
theorem dL_law_341 : decode cL_law 341 = .ok (.iconst 0, 1) := by decide +kernel
theorem dL_law_342 : decode cL_law 342 = .ok (.ireturn, 1) := by decide +kernel
theorem dL_law_343 : decode cL_law 343 = .ok (.aload_n 1, 1) := by decide +kernel
theorem dL_law_344 : decode cL_law 344 = .ok (.aload_n 0, 1) := by decide +kernel
theorem dL_law_345 : decode cL_law 345 = .ok (.iload_n 3, 1) := by decide +kernel
theorem dL_law_346 : decode cL_law 346 = .ok (.iconst 1, 1) := by decide +kernel
theorem dL_law_347 : decode cL_law 347 = .ok (.iadd, 1) := by decide +kernel
theorem dL_law_348 : decode cL_law 348 = .ok (.iaload, 1) := by decide +kernel
theorem dL_law_349 : decode cL_law 349 = .ok (.invokevirtual 28, 3) := by decide +kernel
theorem dL_law_352 : decode cL_law 352 = .ok (.aload_n 2, 1) := by decide +kernel
theorem dL_law_353 : decode cL_law 353 = .ok (.aload_n 0, 1) := by decide +kernel
theorem dL_law_354 : decode cL_law 354 = .ok (.iload_n 3, 1) := by decide +kernel
theorem dL_law_355 : decode cL_law 355 = .ok (.iconst 1, 1) := by decide +kernel
theorem dL_law_356 : decode cL_law 356 = .ok (.iadd, 1) := by decide +kernel
theorem dL_law_357 : decode cL_law 357 = .ok (.iaload, 1) := by decide +kernel
theorem dL_law_358 : decode cL_law 358 = .ok (.invokevirtual 31, 3) := by decide +kernel
theorem dL_law_361 : decode cL_law 361 = .ok (.if_icmp .eq 1323, 3) := by decide +kernel
theorem dL_law_364 : decode cL_law 364 = .ok (.iconst 0, 1) := by decide +kernel
theorem dL_law_365 : decode cL_law 365 = .ok (.ireturn, 1) := by decide +kernel
theorem dL_law_366 : decode cL_law 366 = .ok (.aload_n 1, 1) := by decide +kernel
theorem dL_law_367 : decode cL_law 367 = .ok (.aload_n 0, 1) := by decide +kernel
theorem dL_law_368 : decode cL_law 368 = .ok (.iload_n 3, 1) := by decide +kernel
theorem dL_law_369 : decode cL_law 369 = .ok (.iconst 1, 1) := by decide +kernel
theorem dL_law_370 : decode cL_law 370 = .ok (.iadd, 1) := by decide +kernel
theorem dL_law_371 : decode cL_law 371 = .ok (.iaload, 1) := by decide +kernel
theorem dL_law_372 : decode cL_law 372 = .ok (.aload_n 0, 1) := by decide +kernel
theorem dL_law_373 : decode cL_law 373 = .ok (.iload_n 3, 1) := by decide +kernel
theorem dL_law_374 : decode cL_law 374 = .ok (.iconst 2, 1) := by decide +kernel
theorem dL_law_375 : decode cL_law 375 = .ok (.iadd, 1) := by decide +kernel
theorem dL_law_376 : decode cL_law 376 = .ok (.iaload, 1) := by decide +kernel
theorem dL_law_377 : decode cL_law 377 = .ok (.invokevirtual 32, 3) := by decide +kernel
theorem dL_law_380 : decode cL_law 380 = .ok (.aload_n 2, 1) := by decide +kernel
theorem dL_law_381 : decode cL_law 381 = .ok (.aload_n 0, 1) := by decide +kernel
theorem dL_law_382 : decode cL_law 382 = .ok (.iload_n 3, 1) := by decide +kernel
theorem dL_law_383 : decode cL_law 383 = .ok (.iconst 1, 1) := by decide +kernel
theorem dL_law_384 : decode cL_law 384 = .ok (.iadd, 1) := by decide +kernel
theorem dL_law_385 : decode cL_law 385 = .ok (.iaload, 1) := by decide +kernel
theorem dL_law_386 : decode cL_law 386 = .ok (.aload_n 0, 1) := by decide +kernel
theorem dL_law_387 : decode cL_law 387 = .ok (.iload_n 3, 1) := by decide +kernel
theorem dL_law_388 : decode cL_law 388 = .ok (.iconst 2, 1) := by decide +kernel
theorem dL_law_389 : decode cL_law 389 = .ok (.iadd, 1) := by decide +kernel
theorem dL_law_390 : decode cL_law 390 = .ok (.iaload, 1) := by decide +kernel
theorem dL_law_391 : decode cL_law 391 = .ok (.invokevirtual 35, 3) := by decide +kernel
theorem dL_law_394 : decode cL_law 394 = .ok (.if_icmp .eq 1290, 3) := by decide +kernel
theorem dL_law_397 : decode cL_law 397 = .ok (.iconst 0, 1) := by decide +kernel
theorem dL_law_398 : decode cL_law 398 = .ok (.ireturn, 1) := by decide +kernel
theorem dL_law_399 : decode cL_law 399 = .ok (.aload_n 1, 1) := by decide +kernel
theorem dL_law_400 : decode cL_law 400 = .ok (.aload_n 0, 1) := by decide +kernel
theorem dL_law_401 : decode cL_law 401 = .ok (.iload_n 3, 1) := by decide +kernel
theorem dL_law_402 : decode cL_law 402 = .ok (.iconst 1, 1) := by decide +kernel
theorem dL_law_403 : decode cL_law 403 = .ok (.iadd, 1) := by decide +kernel
theorem dL_law_404 : decode cL_law 404 = .ok (.iaload, 1) := by decide +kernel
theorem dL_law_405 : decode cL_law 405 = .ok (.aload_n 0, 1) := by decide +kernel
theorem dL_law_406 : decode cL_law 406 = .ok (.iload_n 3, 1) := by decide +kernel
theorem dL_law_407 : decode cL_law 407 = .ok (.iconst 2, 1) := by decide +kernel
theorem dL_law_408 : decode cL_law 408 = .ok (.iadd, 1) := by decide +kernel
theorem dL_law_409 : decode cL_law 409 = .ok (.iaload, 1) := by decide +kernel
theorem dL_law_410 : decode cL_law 410 = .ok (.invokevirtual 36, 3) := by decide +kernel
theorem dL_law_413 : decode cL_law 413 = .ok (.aload_n 2, 1) := by decide +kernel
theorem dL_law_414 : decode cL_law 414 = .ok (.aload_n 0, 1) := by decide +kernel
theorem dL_law_415 : decode cL_law 415 = .ok (.iload_n 3, 1) := by decide +kernel
theorem dL_law_416 : decode cL_law 416 = .ok (.iconst 1, 1) := by decide +kernel
theorem dL_law_417 : decode cL_law 417 = .ok (.iadd, 1) := by decide +kernel
theorem dL_law_418 : decode cL_law 418 = .ok (.iaload, 1) := by decide +kernel
theorem dL_law_419 : decode cL_law 419 = .ok (.aload_n 0, 1) := by decide +kernel
theorem dL_law_420 : decode cL_law 420 = .ok (.iload_n 3, 1) := by decide +kernel
theorem dL_law_421 : decode cL_law 421 = .ok (.iconst 2, 1) := by decide +kernel
theorem dL_law_422 : decode cL_law 422 = .ok (.iadd, 1) := by decide +kernel
theorem dL_law_423 : decode cL_law 423 = .ok (.iaload, 1) := by decide +kernel
theorem dL_law_424 : decode cL_law 424 = .ok (.invokevirtual 39, 3) := by decide +kernel
theorem dL_law_427 : decode cL_law 427 = .ok (.if_icmp .eq 1257, 3) := by decide +kernel
theorem dL_law_430 : decode cL_law 430 = .ok (.iconst 0, 1) := by decide +kernel
theorem dL_law_431 : decode cL_law 431 = .ok (.ireturn, 1) := by decide +kernel
theorem dL_law_432 : decode cL_law 432 = .ok (.aload_n 1, 1) := by decide +kernel
theorem dL_law_433 : decode cL_law 433 = .ok (.aload_n 0, 1) := by decide +kernel
theorem dL_law_434 : decode cL_law 434 = .ok (.iload_n 3, 1) := by decide +kernel
theorem dL_law_435 : decode cL_law 435 = .ok (.iconst 1, 1) := by decide +kernel
theorem dL_law_436 : decode cL_law 436 = .ok (.iadd, 1) := by decide +kernel
theorem dL_law_437 : decode cL_law 437 = .ok (.iaload, 1) := by decide +kernel
theorem dL_law_438 : decode cL_law 438 = .ok (.aload_n 0, 1) := by decide +kernel
theorem dL_law_439 : decode cL_law 439 = .ok (.iload_n 3, 1) := by decide +kernel
theorem dL_law_440 : decode cL_law 440 = .ok (.iconst 2, 1) := by decide +kernel
theorem dL_law_441 : decode cL_law 441 = .ok (.iadd, 1) := by decide +kernel
theorem dL_law_442 : decode cL_law 442 = .ok (.iaload, 1) := by decide +kernel
theorem dL_law_443 : decode cL_law 443 = .ok (.invokevirtual 40, 3) := by decide +kernel
theorem dL_law_446 : decode cL_law 446 = .ok (.aload_n 2, 1) := by decide +kernel
theorem dL_law_447 : decode cL_law 447 = .ok (.aload_n 0, 1) := by decide +kernel
theorem dL_law_448 : decode cL_law 448 = .ok (.iload_n 3, 1) := by decide +kernel
theorem dL_law_449 : decode cL_law 449 = .ok (.iconst 1, 1) := by decide +kernel
theorem dL_law_450 : decode cL_law 450 = .ok (.iadd, 1) := by decide +kernel
theorem dL_law_451 : decode cL_law 451 = .ok (.iaload, 1) := by decide +kernel
theorem dL_law_452 : decode cL_law 452 = .ok (.aload_n 0, 1) := by decide +kernel
theorem dL_law_453 : decode cL_law 453 = .ok (.iload_n 3, 1) := by decide +kernel
theorem dL_law_454 : decode cL_law 454 = .ok (.iconst 2, 1) := by decide +kernel
theorem dL_law_455 : decode cL_law 455 = .ok (.iadd, 1) := by decide +kernel
theorem dL_law_456 : decode cL_law 456 = .ok (.iaload, 1) := by decide +kernel
theorem dL_law_457 : decode cL_law 457 = .ok (.invokevirtual 43, 3) := by decide +kernel
theorem dL_law_460 : decode cL_law 460 = .ok (.if_icmp .eq 1224, 3) := by decide +kernel
theorem dL_law_463 : decode cL_law 463 = .ok (.iconst 0, 1) := by decide +kernel
theorem dL_law_464 : decode cL_law 464 = .ok (.ireturn, 1) := by decide +kernel
theorem dL_law_465 : decode cL_law 465 = .ok (.aload_n 1, 1) := by decide +kernel
theorem dL_law_466 : decode cL_law 466 = .ok (.aload_n 0, 1) := by decide +kernel
theorem dL_law_467 : decode cL_law 467 = .ok (.iload_n 3, 1) := by decide +kernel
theorem dL_law_468 : decode cL_law 468 = .ok (.iconst 1, 1) := by decide +kernel
theorem dL_law_469 : decode cL_law 469 = .ok (.iadd, 1) := by decide +kernel
theorem dL_law_470 : decode cL_law 470 = .ok (.iaload, 1) := by decide +kernel
theorem dL_law_471 : decode cL_law 471 = .ok (.aload_n 0, 1) := by decide +kernel
theorem dL_law_472 : decode cL_law 472 = .ok (.iload_n 3, 1) := by decide +kernel
theorem dL_law_473 : decode cL_law 473 = .ok (.iconst 2, 1) := by decide +kernel
theorem dL_law_474 : decode cL_law 474 = .ok (.iadd, 1) := by decide +kernel
theorem dL_law_475 : decode cL_law 475 = .ok (.iaload, 1) := by decide +kernel
theorem dL_law_476 : decode cL_law 476 = .ok (.invokevirtual 44, 3) := by decide +kernel
theorem dL_law_479 : decode cL_law 479 = .ok (.aload_n 2, 1) := by decide +kernel
theorem dL_law_480 : decode cL_law 480 = .ok (.aload_n 0, 1) := by decide +kernel
theorem dL_law_481 : decode cL_law 481 = .ok (.iload_n 3, 1) := by decide +kernel
theorem dL_law_482 : decode cL_law 482 = .ok (.iconst 1, 1) := by decide +kernel
theorem dL_law_483 : decode cL_law 483 = .ok (.iadd, 1) := by decide +kernel
theorem dL_law_484 : decode cL_law 484 = .ok (.iaload, 1) := by decide +kernel
theorem dL_law_485 : decode cL_law 485 = .ok (.aload_n 0, 1) := by decide +kernel
theorem dL_law_486 : decode cL_law 486 = .ok (.iload_n 3, 1) := by decide +kernel
theorem dL_law_487 : decode cL_law 487 = .ok (.iconst 2, 1) := by decide +kernel
theorem dL_law_488 : decode cL_law 488 = .ok (.iadd, 1) := by decide +kernel
theorem dL_law_489 : decode cL_law 489 = .ok (.iaload, 1) := by decide +kernel
theorem dL_law_490 : decode cL_law 490 = .ok (.invokevirtual 47, 3) := by decide +kernel
theorem dL_law_493 : decode cL_law 493 = .ok (.if_icmp .eq 1191, 3) := by decide +kernel
theorem dL_law_496 : decode cL_law 496 = .ok (.iconst 0, 1) := by decide +kernel
theorem dL_law_497 : decode cL_law 497 = .ok (.ireturn, 1) := by decide +kernel
theorem dL_law_498 : decode cL_law 498 = .ok (.aload_n 1, 1) := by decide +kernel
theorem dL_law_499 : decode cL_law 499 = .ok (.aload_n 0, 1) := by decide +kernel
theorem dL_law_500 : decode cL_law 500 = .ok (.iload_n 3, 1) := by decide +kernel
theorem dL_law_501 : decode cL_law 501 = .ok (.iconst 1, 1) := by decide +kernel
theorem dL_law_502 : decode cL_law 502 = .ok (.iadd, 1) := by decide +kernel
theorem dL_law_503 : decode cL_law 503 = .ok (.iaload, 1) := by decide +kernel
theorem dL_law_504 : decode cL_law 504 = .ok (.aload_n 0, 1) := by decide +kernel
theorem dL_law_505 : decode cL_law 505 = .ok (.iload_n 3, 1) := by decide +kernel
theorem dL_law_506 : decode cL_law 506 = .ok (.iconst 2, 1) := by decide +kernel
theorem dL_law_507 : decode cL_law 507 = .ok (.iadd, 1) := by decide +kernel
theorem dL_law_508 : decode cL_law 508 = .ok (.iaload, 1) := by decide +kernel
theorem dL_law_509 : decode cL_law 509 = .ok (.invokevirtual 48, 3) := by decide +kernel
theorem dL_law_512 : decode cL_law 512 = .ok (.aload_n 2, 1) := by decide +kernel
theorem dL_law_513 : decode cL_law 513 = .ok (.aload_n 0, 1) := by decide +kernel
theorem dL_law_514 : decode cL_law 514 = .ok (.iload_n 3, 1) := by decide +kernel
theorem dL_law_515 : decode cL_law 515 = .ok (.iconst 1, 1) := by decide +kernel
theorem dL_law_516 : decode cL_law 516 = .ok (.iadd, 1) := by decide +kernel
theorem dL_law_517 : decode cL_law 517 = .ok (.iaload, 1) := by decide +kernel
theorem dL_law_518 : decode cL_law 518 = .ok (.aload_n 0, 1) := by decide +kernel
theorem dL_law_519 : decode cL_law 519 = .ok (.iload_n 3, 1) := by decide +kernel
theorem dL_law_520 : decode cL_law 520 = .ok (.iconst 2, 1) := by decide +kernel
theorem dL_law_521 : decode cL_law 521 = .ok (.iadd, 1) := by decide +kernel
theorem dL_law_522 : decode cL_law 522 = .ok (.iaload, 1) := by decide +kernel
theorem dL_law_523 : decode cL_law 523 = .ok (.invokevirtual 51, 3) := by decide +kernel
theorem dL_law_526 : decode cL_law 526 = .ok (.if_icmp .eq 1158, 3) := by decide +kernel
theorem dL_law_529 : decode cL_law 529 = .ok (.iconst 0, 1) := by decide +kernel
theorem dL_law_530 : decode cL_law 530 = .ok (.ireturn, 1) := by decide +kernel
theorem dL_law_531 : decode cL_law 531 = .ok (.aload_n 1, 1) := by decide +kernel
theorem dL_law_532 : decode cL_law 532 = .ok (.aload_n 0, 1) := by decide +kernel
theorem dL_law_533 : decode cL_law 533 = .ok (.iload_n 3, 1) := by decide +kernel
theorem dL_law_534 : decode cL_law 534 = .ok (.iconst 1, 1) := by decide +kernel
theorem dL_law_535 : decode cL_law 535 = .ok (.iadd, 1) := by decide +kernel
theorem dL_law_536 : decode cL_law 536 = .ok (.iaload, 1) := by decide +kernel
theorem dL_law_537 : decode cL_law 537 = .ok (.aload_n 0, 1) := by decide +kernel
theorem dL_law_538 : decode cL_law 538 = .ok (.iload_n 3, 1) := by decide +kernel
theorem dL_law_539 : decode cL_law 539 = .ok (.iconst 2, 1) := by decide +kernel
theorem dL_law_540 : decode cL_law 540 = .ok (.iadd, 1) := by decide +kernel
theorem dL_law_541 : decode cL_law 541 = .ok (.iaload, 1) := by decide +kernel
theorem dL_law_542 : decode cL_law 542 = .ok (.ifCond .eq 7, 3) := by decide +kernel
theorem dL_law_545 : decode cL_law 545 = .ok (.iconst 1, 1) := by decide +kernel
theorem dL_law_546 : decode cL_law 546 = .ok (.goto 4, 3) := by decide +kernel
theorem dL_law_549 : decode cL_law 549 = .ok (.iconst 0, 1) := by decide +kernel
theorem dL_law_550 : decode cL_law 550 = .ok (.invokevirtual 52, 3) := by decide +kernel
theorem dL_law_553 : decode cL_law 553 = .ok (.aload_n 2, 1) := by decide +kernel
theorem dL_law_554 : decode cL_law 554 = .ok (.aload_n 0, 1) := by decide +kernel
theorem dL_law_555 : decode cL_law 555 = .ok (.iload_n 3, 1) := by decide +kernel
theorem dL_law_556 : decode cL_law 556 = .ok (.iconst 1, 1) := by decide +kernel
theorem dL_law_557 : decode cL_law 557 = .ok (.iadd, 1) := by decide +kernel
theorem dL_law_558 : decode cL_law 558 = .ok (.iaload, 1) := by decide +kernel
theorem dL_law_559 : decode cL_law 559 = .ok (.aload_n 0, 1) := by decide +kernel
theorem dL_law_560 : decode cL_law 560 = .ok (.iload_n 3, 1) := by decide +kernel
theorem dL_law_561 : decode cL_law 561 = .ok (.iconst 2, 1) := by decide +kernel
theorem dL_law_562 : decode cL_law 562 = .ok (.iadd, 1) := by decide +kernel
theorem dL_law_563 : decode cL_law 563 = .ok (.iaload, 1) := by decide +kernel
theorem dL_law_564 : decode cL_law 564 = .ok (.ifCond .eq 7, 3) := by decide +kernel
theorem dL_law_567 : decode cL_law 567 = .ok (.iconst 1, 1) := by decide +kernel
theorem dL_law_568 : decode cL_law 568 = .ok (.goto 4, 3) := by decide +kernel
theorem dL_law_571 : decode cL_law 571 = .ok (.iconst 0, 1) := by decide +kernel
theorem dL_law_572 : decode cL_law 572 = .ok (.invokevirtual 56, 3) := by decide +kernel
theorem dL_law_575 : decode cL_law 575 = .ok (.if_icmp .eq 1109, 3) := by decide +kernel
theorem dL_law_578 : decode cL_law 578 = .ok (.iconst 0, 1) := by decide +kernel
theorem dL_law_579 : decode cL_law 579 = .ok (.ireturn, 1) := by decide +kernel
theorem dL_law_580 : decode cL_law 580 = .ok (.aload_n 1, 1) := by decide +kernel
theorem dL_law_581 : decode cL_law 581 = .ok (.aload_n 0, 1) := by decide +kernel
theorem dL_law_582 : decode cL_law 582 = .ok (.iload_n 3, 1) := by decide +kernel
theorem dL_law_583 : decode cL_law 583 = .ok (.iconst 1, 1) := by decide +kernel
theorem dL_law_584 : decode cL_law 584 = .ok (.iadd, 1) := by decide +kernel
theorem dL_law_585 : decode cL_law 585 = .ok (.iaload, 1) := by decide +kernel
theorem dL_law_586 : decode cL_law 586 = .ok (.aload_n 0, 1) := by decide +kernel
theorem dL_law_587 : decode cL_law 587 = .ok (.iload_n 3, 1) := by decide +kernel
theorem dL_law_588 : decode cL_law 588 = .ok (.iconst 2, 1) := by decide +kernel
theorem dL_law_589 : decode cL_law 589 = .ok (.iadd, 1) := by decide +kernel
theorem dL_law_590 : decode cL_law 590 = .ok (.iaload, 1) := by decide +kernel
theorem dL_law_591 : decode cL_law 591 = .ok (.aload_n 0, 1) := by decide +kernel
theorem dL_law_592 : decode cL_law 592 = .ok (.iload_n 3, 1) := by decide +kernel
theorem dL_law_593 : decode cL_law 593 = .ok (.iconst 3, 1) := by decide +kernel
theorem dL_law_594 : decode cL_law 594 = .ok (.iadd, 1) := by decide +kernel
theorem dL_law_595 : decode cL_law 595 = .ok (.iaload, 1) := by decide +kernel
theorem dL_law_596 : decode cL_law 596 = .ok (.invokevirtual 57, 3) := by decide +kernel
theorem dL_law_599 : decode cL_law 599 = .ok (.aload_n 2, 1) := by decide +kernel
theorem dL_law_600 : decode cL_law 600 = .ok (.aload_n 0, 1) := by decide +kernel
theorem dL_law_601 : decode cL_law 601 = .ok (.iload_n 3, 1) := by decide +kernel
theorem dL_law_602 : decode cL_law 602 = .ok (.iconst 1, 1) := by decide +kernel
theorem dL_law_603 : decode cL_law 603 = .ok (.iadd, 1) := by decide +kernel
theorem dL_law_604 : decode cL_law 604 = .ok (.iaload, 1) := by decide +kernel
theorem dL_law_605 : decode cL_law 605 = .ok (.aload_n 0, 1) := by decide +kernel
theorem dL_law_606 : decode cL_law 606 = .ok (.iload_n 3, 1) := by decide +kernel
theorem dL_law_607 : decode cL_law 607 = .ok (.iconst 2, 1) := by decide +kernel
theorem dL_law_608 : decode cL_law 608 = .ok (.iadd, 1) := by decide +kernel
theorem dL_law_609 : decode cL_law 609 = .ok (.iaload, 1) := by decide +kernel
theorem dL_law_610 : decode cL_law 610 = .ok (.aload_n 0, 1) := by decide +kernel
theorem dL_law_611 : decode cL_law 611 = .ok (.iload_n 3, 1) := by decide +kernel
theorem dL_law_612 : decode cL_law 612 = .ok (.iconst 3, 1) := by decide +kernel
theorem dL_law_613 : decode cL_law 613 = .ok (.iadd, 1) := by decide +kernel
theorem dL_law_614 : decode cL_law 614 = .ok (.iaload, 1) := by decide +kernel
theorem dL_law_615 : decode cL_law 615 = .ok (.invokevirtual 61, 3) := by decide +kernel
theorem dL_law_618 : decode cL_law 618 = .ok (.if_icmp .eq 1066, 3) := by decide +kernel
theorem dL_law_621 : decode cL_law 621 = .ok (.iconst 0, 1) := by decide +kernel
theorem dL_law_622 : decode cL_law 622 = .ok (.ireturn, 1) := by decide +kernel
theorem dL_law_623 : decode cL_law 623 = .ok (.aload_n 1, 1) := by decide +kernel
theorem dL_law_624 : decode cL_law 624 = .ok (.aload_n 0, 1) := by decide +kernel
theorem dL_law_625 : decode cL_law 625 = .ok (.iload_n 3, 1) := by decide +kernel
theorem dL_law_626 : decode cL_law 626 = .ok (.iconst 1, 1) := by decide +kernel
theorem dL_law_627 : decode cL_law 627 = .ok (.iadd, 1) := by decide +kernel
theorem dL_law_628 : decode cL_law 628 = .ok (.iaload, 1) := by decide +kernel
theorem dL_law_629 : decode cL_law 629 = .ok (.aload_n 0, 1) := by decide +kernel
theorem dL_law_630 : decode cL_law 630 = .ok (.iload_n 3, 1) := by decide +kernel
theorem dL_law_631 : decode cL_law 631 = .ok (.iconst 2, 1) := by decide +kernel
theorem dL_law_632 : decode cL_law 632 = .ok (.iadd, 1) := by decide +kernel
theorem dL_law_633 : decode cL_law 633 = .ok (.iaload, 1) := by decide +kernel
theorem dL_law_634 : decode cL_law 634 = .ok (.invokevirtual 62, 3) := by decide +kernel
theorem dL_law_637 : decode cL_law 637 = .ok (.aload_n 2, 1) := by decide +kernel
theorem dL_law_638 : decode cL_law 638 = .ok (.aload_n 0, 1) := by decide +kernel
theorem dL_law_639 : decode cL_law 639 = .ok (.iload_n 3, 1) := by decide +kernel
theorem dL_law_640 : decode cL_law 640 = .ok (.iconst 1, 1) := by decide +kernel
theorem dL_law_641 : decode cL_law 641 = .ok (.iadd, 1) := by decide +kernel
theorem dL_law_642 : decode cL_law 642 = .ok (.iaload, 1) := by decide +kernel
theorem dL_law_643 : decode cL_law 643 = .ok (.aload_n 0, 1) := by decide +kernel
theorem dL_law_644 : decode cL_law 644 = .ok (.iload_n 3, 1) := by decide +kernel
theorem dL_law_645 : decode cL_law 645 = .ok (.iconst 2, 1) := by decide +kernel
theorem dL_law_646 : decode cL_law 646 = .ok (.iadd, 1) := by decide +kernel
theorem dL_law_647 : decode cL_law 647 = .ok (.iaload, 1) := by decide +kernel
theorem dL_law_648 : decode cL_law 648 = .ok (.invokevirtual 65, 3) := by decide +kernel
theorem dL_law_651 : decode cL_law 651 = .ok (.if_icmp .eq 1033, 3) := by decide +kernel
theorem dL_law_654 : decode cL_law 654 = .ok (.iconst 0, 1) := by decide +kernel
theorem dL_law_655 : decode cL_law 655 = .ok (.ireturn, 1) := by decide +kernel
theorem dL_law_656 : decode cL_law 656 = .ok (.aload_n 1, 1) := by decide +kernel
theorem dL_law_657 : decode cL_law 657 = .ok (.aload_n 0, 1) := by decide +kernel
theorem dL_law_658 : decode cL_law 658 = .ok (.iload_n 3, 1) := by decide +kernel
theorem dL_law_659 : decode cL_law 659 = .ok (.iconst 1, 1) := by decide +kernel
theorem dL_law_660 : decode cL_law 660 = .ok (.iadd, 1) := by decide +kernel
theorem dL_law_661 : decode cL_law 661 = .ok (.iaload, 1) := by decide +kernel
theorem dL_law_662 : decode cL_law 662 = .ok (.aload_n 0, 1) := by decide +kernel
theorem dL_law_663 : decode cL_law 663 = .ok (.iload_n 3, 1) := by decide +kernel
theorem dL_law_664 : decode cL_law 664 = .ok (.iconst 2, 1) := by decide +kernel
theorem dL_law_665 : decode cL_law 665 = .ok (.iadd, 1) := by decide +kernel
theorem dL_law_666 : decode cL_law 666 = .ok (.iaload, 1) := by decide +kernel
theorem dL_law_667 : decode cL_law 667 = .ok (.invokevirtual 66, 3) := by decide +kernel
theorem dL_law_670 : decode cL_law 670 = .ok (.aload_n 2, 1) := by decide +kernel
theorem dL_law_671 : decode cL_law 671 = .ok (.aload_n 0, 1) := by decide +kernel
theorem dL_law_672 : decode cL_law 672 = .ok (.iload_n 3, 1) := by decide +kernel
theorem dL_law_673 : decode cL_law 673 = .ok (.iconst 1, 1) := by decide +kernel
theorem dL_law_674 : decode cL_law 674 = .ok (.iadd, 1) := by decide +kernel
theorem dL_law_675 : decode cL_law 675 = .ok (.iaload, 1) := by decide +kernel
theorem dL_law_676 : decode cL_law 676 = .ok (.aload_n 0, 1) := by decide +kernel
theorem dL_law_677 : decode cL_law 677 = .ok (.iload_n 3, 1) := by decide +kernel
theorem dL_law_678 : decode cL_law 678 = .ok (.iconst 2, 1) := by decide +kernel
theorem dL_law_679 : decode cL_law 679 = .ok (.iadd, 1) := by decide +kernel
theorem dL_law_680 : decode cL_law 680 = .ok (.iaload, 1) := by decide +kernel
theorem dL_law_681 : decode cL_law 681 = .ok (.invokevirtual 70, 3) := by decide +kernel
theorem dL_law_684 : decode cL_law 684 = .ok (.lcmp, 1) := by decide +kernel
theorem dL_law_685 : decode cL_law 685 = .ok (.ifCond .eq 999, 3) := by decide +kernel
theorem dL_law_688 : decode cL_law 688 = .ok (.iconst 0, 1) := by decide +kernel
theorem dL_law_689 : decode cL_law 689 = .ok (.ireturn, 1) := by decide +kernel
theorem dL_law_690 : decode cL_law 690 = .ok (.aload_n 1, 1) := by decide +kernel
theorem dL_law_691 : decode cL_law 691 = .ok (.aload_n 0, 1) := by decide +kernel
theorem dL_law_692 : decode cL_law 692 = .ok (.iload_n 3, 1) := by decide +kernel
theorem dL_law_693 : decode cL_law 693 = .ok (.iconst 1, 1) := by decide +kernel
theorem dL_law_694 : decode cL_law 694 = .ok (.iadd, 1) := by decide +kernel
theorem dL_law_695 : decode cL_law 695 = .ok (.iaload, 1) := by decide +kernel
theorem dL_law_696 : decode cL_law 696 = .ok (.aload_n 0, 1) := by decide +kernel
theorem dL_law_697 : decode cL_law 697 = .ok (.iload_n 3, 1) := by decide +kernel
theorem dL_law_698 : decode cL_law 698 = .ok (.iconst 2, 1) := by decide +kernel
theorem dL_law_699 : decode cL_law 699 = .ok (.iadd, 1) := by decide +kernel
theorem dL_law_700 : decode cL_law 700 = .ok (.iaload, 1) := by decide +kernel
theorem dL_law_701 : decode cL_law 701 = .ok (.invokevirtual 71, 3) := by decide +kernel
theorem dL_law_704 : decode cL_law 704 = .ok (.aload_n 2, 1) := by decide +kernel
theorem dL_law_705 : decode cL_law 705 = .ok (.aload_n 0, 1) := by decide +kernel
theorem dL_law_706 : decode cL_law 706 = .ok (.iload_n 3, 1) := by decide +kernel
theorem dL_law_707 : decode cL_law 707 = .ok (.iconst 1, 1) := by decide +kernel
theorem dL_law_708 : decode cL_law 708 = .ok (.iadd, 1) := by decide +kernel
theorem dL_law_709 : decode cL_law 709 = .ok (.iaload, 1) := by decide +kernel
theorem dL_law_710 : decode cL_law 710 = .ok (.aload_n 0, 1) := by decide +kernel
theorem dL_law_711 : decode cL_law 711 = .ok (.iload_n 3, 1) := by decide +kernel
theorem dL_law_712 : decode cL_law 712 = .ok (.iconst 2, 1) := by decide +kernel
theorem dL_law_713 : decode cL_law 713 = .ok (.iadd, 1) := by decide +kernel
theorem dL_law_714 : decode cL_law 714 = .ok (.iaload, 1) := by decide +kernel
theorem dL_law_715 : decode cL_law 715 = .ok (.invokevirtual 74, 3) := by decide +kernel
theorem dL_law_718 : decode cL_law 718 = .ok (.lcmp, 1) := by decide +kernel
theorem dL_law_719 : decode cL_law 719 = .ok (.ifCond .eq 965, 3) := by decide +kernel
theorem dL_law_722 : decode cL_law 722 = .ok (.iconst 0, 1) := by decide +kernel
theorem dL_law_723 : decode cL_law 723 = .ok (.ireturn, 1) := by decide +kernel
theorem dL_law_724 : decode cL_law 724 = .ok (.aload_n 1, 1) := by decide +kernel
theorem dL_law_725 : decode cL_law 725 = .ok (.aload_n 0, 1) := by decide +kernel
theorem dL_law_726 : decode cL_law 726 = .ok (.iload_n 3, 1) := by decide +kernel
theorem dL_law_727 : decode cL_law 727 = .ok (.iconst 1, 1) := by decide +kernel
theorem dL_law_728 : decode cL_law 728 = .ok (.iadd, 1) := by decide +kernel
theorem dL_law_729 : decode cL_law 729 = .ok (.iaload, 1) := by decide +kernel
theorem dL_law_730 : decode cL_law 730 = .ok (.aload_n 0, 1) := by decide +kernel
theorem dL_law_731 : decode cL_law 731 = .ok (.iload_n 3, 1) := by decide +kernel
theorem dL_law_732 : decode cL_law 732 = .ok (.iconst 2, 1) := by decide +kernel
theorem dL_law_733 : decode cL_law 733 = .ok (.iadd, 1) := by decide +kernel
theorem dL_law_734 : decode cL_law 734 = .ok (.iaload, 1) := by decide +kernel
theorem dL_law_735 : decode cL_law 735 = .ok (.invokevirtual 75, 3) := by decide +kernel
theorem dL_law_738 : decode cL_law 738 = .ok (.aload_n 2, 1) := by decide +kernel
theorem dL_law_739 : decode cL_law 739 = .ok (.aload_n 0, 1) := by decide +kernel
theorem dL_law_740 : decode cL_law 740 = .ok (.iload_n 3, 1) := by decide +kernel
theorem dL_law_741 : decode cL_law 741 = .ok (.iconst 1, 1) := by decide +kernel
theorem dL_law_742 : decode cL_law 742 = .ok (.iadd, 1) := by decide +kernel
theorem dL_law_743 : decode cL_law 743 = .ok (.iaload, 1) := by decide +kernel
theorem dL_law_744 : decode cL_law 744 = .ok (.aload_n 0, 1) := by decide +kernel
theorem dL_law_745 : decode cL_law 745 = .ok (.iload_n 3, 1) := by decide +kernel
theorem dL_law_746 : decode cL_law 746 = .ok (.iconst 2, 1) := by decide +kernel
theorem dL_law_747 : decode cL_law 747 = .ok (.iadd, 1) := by decide +kernel
theorem dL_law_748 : decode cL_law 748 = .ok (.iaload, 1) := by decide +kernel
theorem dL_law_749 : decode cL_law 749 = .ok (.invokevirtual 78, 3) := by decide +kernel
theorem dL_law_752 : decode cL_law 752 = .ok (.if_icmp .eq 932, 3) := by decide +kernel
theorem dL_law_755 : decode cL_law 755 = .ok (.iconst 0, 1) := by decide +kernel
theorem dL_law_756 : decode cL_law 756 = .ok (.ireturn, 1) := by decide +kernel
theorem dL_law_757 : decode cL_law 757 = .ok (.aload_n 1, 1) := by decide +kernel
theorem dL_law_758 : decode cL_law 758 = .ok (.aload_n 0, 1) := by decide +kernel
theorem dL_law_759 : decode cL_law 759 = .ok (.iload_n 3, 1) := by decide +kernel
theorem dL_law_760 : decode cL_law 760 = .ok (.iconst 1, 1) := by decide +kernel
theorem dL_law_761 : decode cL_law 761 = .ok (.iadd, 1) := by decide +kernel
theorem dL_law_762 : decode cL_law 762 = .ok (.iaload, 1) := by decide +kernel
theorem dL_law_763 : decode cL_law 763 = .ok (.aload_n 0, 1) := by decide +kernel
theorem dL_law_764 : decode cL_law 764 = .ok (.iload_n 3, 1) := by decide +kernel
theorem dL_law_765 : decode cL_law 765 = .ok (.iconst 2, 1) := by decide +kernel
theorem dL_law_766 : decode cL_law 766 = .ok (.iadd, 1) := by decide +kernel
theorem dL_law_767 : decode cL_law 767 = .ok (.iaload, 1) := by decide +kernel
theorem dL_law_768 : decode cL_law 768 = .ok (.aload_n 0, 1) := by decide +kernel
theorem dL_law_769 : decode cL_law 769 = .ok (.iload_n 3, 1) := by decide +kernel
theorem dL_law_770 : decode cL_law 770 = .ok (.iconst 3, 1) := by decide +kernel
theorem dL_law_771 : decode cL_law 771 = .ok (.iadd, 1) := by decide +kernel
theorem dL_law_772 : decode cL_law 772 = .ok (.iaload, 1) := by decide +kernel
theorem dL_law_773 : decode cL_law 773 = .ok (.invokevirtual 79, 3) := by decide +kernel
theorem dL_law_776 : decode cL_law 776 = .ok (.aload_n 2, 1) := by decide +kernel
theorem dL_law_777 : decode cL_law 777 = .ok (.aload_n 0, 1) := by decide +kernel
theorem dL_law_778 : decode cL_law 778 = .ok (.iload_n 3, 1) := by decide +kernel
theorem dL_law_779 : decode cL_law 779 = .ok (.iconst 1, 1) := by decide +kernel
theorem dL_law_780 : decode cL_law 780 = .ok (.iadd, 1) := by decide +kernel
theorem dL_law_781 : decode cL_law 781 = .ok (.iaload, 1) := by decide +kernel
theorem dL_law_782 : decode cL_law 782 = .ok (.aload_n 0, 1) := by decide +kernel
theorem dL_law_783 : decode cL_law 783 = .ok (.iload_n 3, 1) := by decide +kernel
theorem dL_law_784 : decode cL_law 784 = .ok (.iconst 2, 1) := by decide +kernel
theorem dL_law_785 : decode cL_law 785 = .ok (.iadd, 1) := by decide +kernel
theorem dL_law_786 : decode cL_law 786 = .ok (.iaload, 1) := by decide +kernel
theorem dL_law_787 : decode cL_law 787 = .ok (.aload_n 0, 1) := by decide +kernel
theorem dL_law_788 : decode cL_law 788 = .ok (.iload_n 3, 1) := by decide +kernel
theorem dL_law_789 : decode cL_law 789 = .ok (.iconst 3, 1) := by decide +kernel
theorem dL_law_790 : decode cL_law 790 = .ok (.iadd, 1) := by decide +kernel
theorem dL_law_791 : decode cL_law 791 = .ok (.iaload, 1) := by decide +kernel
theorem dL_law_792 : decode cL_law 792 = .ok (.invokevirtual 82, 3) := by decide +kernel
theorem dL_law_795 : decode cL_law 795 = .ok (.if_icmp .eq 889, 3) := by decide +kernel
theorem dL_law_798 : decode cL_law 798 = .ok (.iconst 0, 1) := by decide +kernel
theorem dL_law_799 : decode cL_law 799 = .ok (.ireturn, 1) := by decide +kernel
theorem dL_law_800 : decode cL_law 800 = .ok (.aload_n 1, 1) := by decide +kernel
theorem dL_law_801 : decode cL_law 801 = .ok (.aload_n 0, 1) := by decide +kernel
theorem dL_law_802 : decode cL_law 802 = .ok (.iload_n 3, 1) := by decide +kernel
theorem dL_law_803 : decode cL_law 803 = .ok (.iconst 1, 1) := by decide +kernel
theorem dL_law_804 : decode cL_law 804 = .ok (.iadd, 1) := by decide +kernel
theorem dL_law_805 : decode cL_law 805 = .ok (.iaload, 1) := by decide +kernel
theorem dL_law_806 : decode cL_law 806 = .ok (.aload_n 0, 1) := by decide +kernel
theorem dL_law_807 : decode cL_law 807 = .ok (.iload_n 3, 1) := by decide +kernel
theorem dL_law_808 : decode cL_law 808 = .ok (.iconst 2, 1) := by decide +kernel
theorem dL_law_809 : decode cL_law 809 = .ok (.iadd, 1) := by decide +kernel
theorem dL_law_810 : decode cL_law 810 = .ok (.iaload, 1) := by decide +kernel
theorem dL_law_811 : decode cL_law 811 = .ok (.aload_n 0, 1) := by decide +kernel
theorem dL_law_812 : decode cL_law 812 = .ok (.iload_n 3, 1) := by decide +kernel
theorem dL_law_813 : decode cL_law 813 = .ok (.iconst 3, 1) := by decide +kernel
theorem dL_law_814 : decode cL_law 814 = .ok (.iadd, 1) := by decide +kernel
theorem dL_law_815 : decode cL_law 815 = .ok (.iaload, 1) := by decide +kernel
theorem dL_law_816 : decode cL_law 816 = .ok (.aload_n 0, 1) := by decide +kernel
theorem dL_law_817 : decode cL_law 817 = .ok (.iload_n 3, 1) := by decide +kernel
theorem dL_law_818 : decode cL_law 818 = .ok (.iconst 4, 1) := by decide +kernel
theorem dL_law_819 : decode cL_law 819 = .ok (.iadd, 1) := by decide +kernel
theorem dL_law_820 : decode cL_law 820 = .ok (.iaload, 1) := by decide +kernel
theorem dL_law_821 : decode cL_law 821 = .ok (.aload_n 0, 1) := by decide +kernel
theorem dL_law_822 : decode cL_law 822 = .ok (.iload_n 3, 1) := by decide +kernel
theorem dL_law_823 : decode cL_law 823 = .ok (.iconst 5, 1) := by decide +kernel
theorem dL_law_824 : decode cL_law 824 = .ok (.iadd, 1) := by decide +kernel
theorem dL_law_825 : decode cL_law 825 = .ok (.iaload, 1) := by decide +kernel
theorem dL_law_826 : decode cL_law 826 = .ok (.aload_n 0, 1) := by decide +kernel
theorem dL_law_827 : decode cL_law 827 = .ok (.iload_n 3, 1) := by decide +kernel
theorem dL_law_828 : decode cL_law 828 = .ok (.bipush 6, 2) := by decide +kernel
theorem dL_law_830 : decode cL_law 830 = .ok (.iadd, 1) := by decide +kernel
theorem dL_law_831 : decode cL_law 831 = .ok (.iaload, 1) := by decide +kernel
theorem dL_law_832 : decode cL_law 832 = .ok (.invokevirtual 83, 3) := by decide +kernel
theorem dL_law_835 : decode cL_law 835 = .ok (.aload_n 2, 1) := by decide +kernel
theorem dL_law_836 : decode cL_law 836 = .ok (.aload_n 0, 1) := by decide +kernel
theorem dL_law_837 : decode cL_law 837 = .ok (.iload_n 3, 1) := by decide +kernel
theorem dL_law_838 : decode cL_law 838 = .ok (.iconst 1, 1) := by decide +kernel
theorem dL_law_839 : decode cL_law 839 = .ok (.iadd, 1) := by decide +kernel
theorem dL_law_840 : decode cL_law 840 = .ok (.iaload, 1) := by decide +kernel
theorem dL_law_841 : decode cL_law 841 = .ok (.aload_n 0, 1) := by decide +kernel
theorem dL_law_842 : decode cL_law 842 = .ok (.iload_n 3, 1) := by decide +kernel
theorem dL_law_843 : decode cL_law 843 = .ok (.iconst 2, 1) := by decide +kernel
theorem dL_law_844 : decode cL_law 844 = .ok (.iadd, 1) := by decide +kernel
theorem dL_law_845 : decode cL_law 845 = .ok (.iaload, 1) := by decide +kernel
theorem dL_law_846 : decode cL_law 846 = .ok (.aload_n 0, 1) := by decide +kernel
theorem dL_law_847 : decode cL_law 847 = .ok (.iload_n 3, 1) := by decide +kernel
theorem dL_law_848 : decode cL_law 848 = .ok (.iconst 3, 1) := by decide +kernel
theorem dL_law_849 : decode cL_law 849 = .ok (.iadd, 1) := by decide +kernel
theorem dL_law_850 : decode cL_law 850 = .ok (.iaload, 1) := by decide +kernel
theorem dL_law_851 : decode cL_law 851 = .ok (.aload_n 0, 1) := by decide +kernel
theorem dL_law_852 : decode cL_law 852 = .ok (.iload_n 3, 1) := by decide +kernel
theorem dL_law_853 : decode cL_law 853 = .ok (.iconst 4, 1) := by decide +kernel
theorem dL_law_854 : decode cL_law 854 = .ok (.iadd, 1) := by decide +kernel
theorem dL_law_855 : decode cL_law 855 = .ok (.iaload, 1) := by decide +kernel
theorem dL_law_856 : decode cL_law 856 = .ok (.aload_n 0, 1) := by decide +kernel
theorem dL_law_857 : decode cL_law 857 = .ok (.iload_n 3, 1) := by decide +kernel
theorem dL_law_858 : decode cL_law 858 = .ok (.iconst 5, 1) := by decide +kernel
theorem dL_law_859 : decode cL_law 859 = .ok (.iadd, 1) := by decide +kernel
theorem dL_law_860 : decode cL_law 860 = .ok (.iaload, 1) := by decide +kernel
theorem dL_law_861 : decode cL_law 861 = .ok (.aload_n 0, 1) := by decide +kernel
theorem dL_law_862 : decode cL_law 862 = .ok (.iload_n 3, 1) := by decide +kernel
theorem dL_law_863 : decode cL_law 863 = .ok (.bipush 6, 2) := by decide +kernel
theorem dL_law_865 : decode cL_law 865 = .ok (.iadd, 1) := by decide +kernel
theorem dL_law_866 : decode cL_law 866 = .ok (.iaload, 1) := by decide +kernel
theorem dL_law_867 : decode cL_law 867 = .ok (.invokevirtual 86, 3) := by decide +kernel
theorem dL_law_870 : decode cL_law 870 = .ok (.if_icmp .eq 814, 3) := by decide +kernel
theorem dL_law_873 : decode cL_law 873 = .ok (.iconst 0, 1) := by decide +kernel
theorem dL_law_874 : decode cL_law 874 = .ok (.ireturn, 1) := by decide +kernel
theorem dL_law_875 : decode cL_law 875 = .ok (.aload_n 1, 1) := by decide +kernel
theorem dL_law_876 : decode cL_law 876 = .ok (.aload_n 0, 1) := by decide +kernel
theorem dL_law_877 : decode cL_law 877 = .ok (.iload_n 3, 1) := by decide +kernel
theorem dL_law_878 : decode cL_law 878 = .ok (.iconst 1, 1) := by decide +kernel
theorem dL_law_879 : decode cL_law 879 = .ok (.iadd, 1) := by decide +kernel
theorem dL_law_880 : decode cL_law 880 = .ok (.iaload, 1) := by decide +kernel
theorem dL_law_881 : decode cL_law 881 = .ok (.invokevirtual 87, 3) := by decide +kernel
theorem dL_law_884 : decode cL_law 884 = .ok (.aload_n 2, 1) := by decide +kernel
theorem dL_law_885 : decode cL_law 885 = .ok (.aload_n 0, 1) := by decide +kernel
theorem dL_law_886 : decode cL_law 886 = .ok (.iload_n 3, 1) := by decide +kernel
theorem dL_law_887 : decode cL_law 887 = .ok (.iconst 1, 1) := by decide +kernel
theorem dL_law_888 : decode cL_law 888 = .ok (.iadd, 1) := by decide +kernel
theorem dL_law_889 : decode cL_law 889 = .ok (.iaload, 1) := by decide +kernel
theorem dL_law_890 : decode cL_law 890 = .ok (.invokevirtual 90, 3) := by decide +kernel
theorem dL_law_893 : decode cL_law 893 = .ok (.if_icmp .eq 791, 3) := by decide +kernel
theorem dL_law_896 : decode cL_law 896 = .ok (.iconst 0, 1) := by decide +kernel
theorem dL_law_897 : decode cL_law 897 = .ok (.ireturn, 1) := by decide +kernel
theorem dL_law_898 : decode cL_law 898 = .ok (.aload_n 1, 1) := by decide +kernel
theorem dL_law_899 : decode cL_law 899 = .ok (.aload_n 0, 1) := by decide +kernel
theorem dL_law_900 : decode cL_law 900 = .ok (.iload_n 3, 1) := by decide +kernel
theorem dL_law_901 : decode cL_law 901 = .ok (.iconst 1, 1) := by decide +kernel
theorem dL_law_902 : decode cL_law 902 = .ok (.iadd, 1) := by decide +kernel
theorem dL_law_903 : decode cL_law 903 = .ok (.iaload, 1) := by decide +kernel
theorem dL_law_904 : decode cL_law 904 = .ok (.aload_n 0, 1) := by decide +kernel
theorem dL_law_905 : decode cL_law 905 = .ok (.iload_n 3, 1) := by decide +kernel
theorem dL_law_906 : decode cL_law 906 = .ok (.iconst 2, 1) := by decide +kernel
theorem dL_law_907 : decode cL_law 907 = .ok (.iadd, 1) := by decide +kernel
theorem dL_law_908 : decode cL_law 908 = .ok (.iaload, 1) := by decide +kernel
theorem dL_law_909 : decode cL_law 909 = .ok (.invokevirtual 91, 3) := by decide +kernel
theorem dL_law_912 : decode cL_law 912 = .ok (.aload_n 2, 1) := by decide +kernel
theorem dL_law_913 : decode cL_law 913 = .ok (.aload_n 0, 1) := by decide +kernel
theorem dL_law_914 : decode cL_law 914 = .ok (.iload_n 3, 1) := by decide +kernel
theorem dL_law_915 : decode cL_law 915 = .ok (.iconst 1, 1) := by decide +kernel
theorem dL_law_916 : decode cL_law 916 = .ok (.iadd, 1) := by decide +kernel
theorem dL_law_917 : decode cL_law 917 = .ok (.iaload, 1) := by decide +kernel
theorem dL_law_918 : decode cL_law 918 = .ok (.aload_n 0, 1) := by decide +kernel
theorem dL_law_919 : decode cL_law 919 = .ok (.iload_n 3, 1) := by decide +kernel
theorem dL_law_920 : decode cL_law 920 = .ok (.iconst 2, 1) := by decide +kernel
theorem dL_law_921 : decode cL_law 921 = .ok (.iadd, 1) := by decide +kernel
theorem dL_law_922 : decode cL_law 922 = .ok (.iaload, 1) := by decide +kernel
theorem dL_law_923 : decode cL_law 923 = .ok (.invokevirtual 94, 3) := by decide +kernel
theorem dL_law_926 : decode cL_law 926 = .ok (.if_icmp .eq 758, 3) := by decide +kernel
theorem dL_law_929 : decode cL_law 929 = .ok (.iconst 0, 1) := by decide +kernel
theorem dL_law_930 : decode cL_law 930 = .ok (.ireturn, 1) := by decide +kernel
theorem dL_law_931 : decode cL_law 931 = .ok (.aload_n 1, 1) := by decide +kernel
theorem dL_law_932 : decode cL_law 932 = .ok (.aload_n 0, 1) := by decide +kernel
theorem dL_law_933 : decode cL_law 933 = .ok (.iload_n 3, 1) := by decide +kernel
theorem dL_law_934 : decode cL_law 934 = .ok (.iconst 1, 1) := by decide +kernel
theorem dL_law_935 : decode cL_law 935 = .ok (.iadd, 1) := by decide +kernel
theorem dL_law_936 : decode cL_law 936 = .ok (.iaload, 1) := by decide +kernel
theorem dL_law_937 : decode cL_law 937 = .ok (.aload_n 0, 1) := by decide +kernel
theorem dL_law_938 : decode cL_law 938 = .ok (.iload_n 3, 1) := by decide +kernel
theorem dL_law_939 : decode cL_law 939 = .ok (.iconst 2, 1) := by decide +kernel
theorem dL_law_940 : decode cL_law 940 = .ok (.iadd, 1) := by decide +kernel
theorem dL_law_941 : decode cL_law 941 = .ok (.iaload, 1) := by decide +kernel
theorem dL_law_942 : decode cL_law 942 = .ok (.aload_n 0, 1) := by decide +kernel
theorem dL_law_943 : decode cL_law 943 = .ok (.iload_n 3, 1) := by decide +kernel
theorem dL_law_944 : decode cL_law 944 = .ok (.iconst 3, 1) := by decide +kernel
theorem dL_law_945 : decode cL_law 945 = .ok (.iadd, 1) := by decide +kernel
theorem dL_law_946 : decode cL_law 946 = .ok (.iaload, 1) := by decide +kernel
theorem dL_law_947 : decode cL_law 947 = .ok (.invokevirtual 95, 3) := by decide +kernel
theorem dL_law_950 : decode cL_law 950 = .ok (.aload_n 2, 1) := by decide +kernel
theorem dL_law_951 : decode cL_law 951 = .ok (.aload_n 0, 1) := by decide +kernel
theorem dL_law_952 : decode cL_law 952 = .ok (.iload_n 3, 1) := by decide +kernel
theorem dL_law_953 : decode cL_law 953 = .ok (.iconst 1, 1) := by decide +kernel
theorem dL_law_954 : decode cL_law 954 = .ok (.iadd, 1) := by decide +kernel
theorem dL_law_955 : decode cL_law 955 = .ok (.iaload, 1) := by decide +kernel
theorem dL_law_956 : decode cL_law 956 = .ok (.aload_n 0, 1) := by decide +kernel
theorem dL_law_957 : decode cL_law 957 = .ok (.iload_n 3, 1) := by decide +kernel
theorem dL_law_958 : decode cL_law 958 = .ok (.iconst 2, 1) := by decide +kernel
theorem dL_law_959 : decode cL_law 959 = .ok (.iadd, 1) := by decide +kernel
theorem dL_law_960 : decode cL_law 960 = .ok (.iaload, 1) := by decide +kernel
theorem dL_law_961 : decode cL_law 961 = .ok (.aload_n 0, 1) := by decide +kernel
theorem dL_law_962 : decode cL_law 962 = .ok (.iload_n 3, 1) := by decide +kernel
theorem dL_law_963 : decode cL_law 963 = .ok (.iconst 3, 1) := by decide +kernel
theorem dL_law_964 : decode cL_law 964 = .ok (.iadd, 1) := by decide +kernel
theorem dL_law_965 : decode cL_law 965 = .ok (.iaload, 1) := by decide +kernel
theorem dL_law_966 : decode cL_law 966 = .ok (.invokevirtual 98, 3) := by decide +kernel
theorem dL_law_969 : decode cL_law 969 = .ok (.if_icmp .eq 715, 3) := by decide +kernel
theorem dL_law_972 : decode cL_law 972 = .ok (.iconst 0, 1) := by decide +kernel
theorem dL_law_973 : decode cL_law 973 = .ok (.ireturn, 1) := by decide +kernel
theorem dL_law_974 : decode cL_law 974 = .ok (.aload_n 1, 1) := by decide +kernel
theorem dL_law_975 : decode cL_law 975 = .ok (.aload_n 0, 1) := by decide +kernel
theorem dL_law_976 : decode cL_law 976 = .ok (.iload_n 3, 1) := by decide +kernel
theorem dL_law_977 : decode cL_law 977 = .ok (.iconst 1, 1) := by decide +kernel
theorem dL_law_978 : decode cL_law 978 = .ok (.iadd, 1) := by decide +kernel
theorem dL_law_979 : decode cL_law 979 = .ok (.iaload, 1) := by decide +kernel
theorem dL_law_980 : decode cL_law 980 = .ok (.aload_n 0, 1) := by decide +kernel
theorem dL_law_981 : decode cL_law 981 = .ok (.iload_n 3, 1) := by decide +kernel
theorem dL_law_982 : decode cL_law 982 = .ok (.iconst 2, 1) := by decide +kernel
theorem dL_law_983 : decode cL_law 983 = .ok (.iadd, 1) := by decide +kernel
theorem dL_law_984 : decode cL_law 984 = .ok (.iaload, 1) := by decide +kernel
theorem dL_law_985 : decode cL_law 985 = .ok (.invokevirtual 99, 3) := by decide +kernel
theorem dL_law_988 : decode cL_law 988 = .ok (.aload_n 2, 1) := by decide +kernel
theorem dL_law_989 : decode cL_law 989 = .ok (.aload_n 0, 1) := by decide +kernel
theorem dL_law_990 : decode cL_law 990 = .ok (.iload_n 3, 1) := by decide +kernel
theorem dL_law_991 : decode cL_law 991 = .ok (.iconst 1, 1) := by decide +kernel
theorem dL_law_992 : decode cL_law 992 = .ok (.iadd, 1) := by decide +kernel
theorem dL_law_993 : decode cL_law 993 = .ok (.iaload, 1) := by decide +kernel
theorem dL_law_994 : decode cL_law 994 = .ok (.aload_n 0, 1) := by decide +kernel
theorem dL_law_995 : decode cL_law 995 = .ok (.iload_n 3, 1) := by decide +kernel
theorem dL_law_996 : decode cL_law 996 = .ok (.iconst 2, 1) := by decide +kernel
theorem dL_law_997 : decode cL_law 997 = .ok (.iadd, 1) := by decide +kernel
theorem dL_law_998 : decode cL_law 998 = .ok (.iaload, 1) := by decide +kernel
theorem dL_law_999 : decode cL_law 999 = .ok (.invokevirtual 102, 3) := by decide +kernel
theorem dL_law_1002 : decode cL_law 1002 = .ok (.if_icmp .eq 682, 3) := by decide +kernel
theorem dL_law_1005 : decode cL_law 1005 = .ok (.iconst 0, 1) := by decide +kernel
theorem dL_law_1006 : decode cL_law 1006 = .ok (.ireturn, 1) := by decide +kernel
theorem dL_law_1007 : decode cL_law 1007 = .ok (.aload_n 1, 1) := by decide +kernel
theorem dL_law_1008 : decode cL_law 1008 = .ok (.aload_n 0, 1) := by decide +kernel
theorem dL_law_1009 : decode cL_law 1009 = .ok (.iload_n 3, 1) := by decide +kernel
theorem dL_law_1010 : decode cL_law 1010 = .ok (.iconst 1, 1) := by decide +kernel
theorem dL_law_1011 : decode cL_law 1011 = .ok (.iadd, 1) := by decide +kernel
theorem dL_law_1012 : decode cL_law 1012 = .ok (.iaload, 1) := by decide +kernel
theorem dL_law_1013 : decode cL_law 1013 = .ok (.aload_n 0, 1) := by decide +kernel
theorem dL_law_1014 : decode cL_law 1014 = .ok (.iload_n 3, 1) := by decide +kernel
theorem dL_law_1015 : decode cL_law 1015 = .ok (.iconst 2, 1) := by decide +kernel
theorem dL_law_1016 : decode cL_law 1016 = .ok (.iadd, 1) := by decide +kernel
theorem dL_law_1017 : decode cL_law 1017 = .ok (.iaload, 1) := by decide +kernel
theorem dL_law_1018 : decode cL_law 1018 = .ok (.invokevirtual 103, 3) := by decide +kernel
theorem dL_law_1021 : decode cL_law 1021 = .ok (.aload_n 2, 1) := by decide +kernel
theorem dL_law_1022 : decode cL_law 1022 = .ok (.aload_n 0, 1) := by decide +kernel
theorem dL_law_1023 : decode cL_law 1023 = .ok (.iload_n 3, 1) := by decide +kernel
theorem dL_law_1024 : decode cL_law 1024 = .ok (.iconst 1, 1) := by decide +kernel
theorem dL_law_1025 : decode cL_law 1025 = .ok (.iadd, 1) := by decide +kernel
theorem dL_law_1026 : decode cL_law 1026 = .ok (.iaload, 1) := by decide +kernel
theorem dL_law_1027 : decode cL_law 1027 = .ok (.aload_n 0, 1) := by decide +kernel
theorem dL_law_1028 : decode cL_law 1028 = .ok (.iload_n 3, 1) := by decide +kernel
theorem dL_law_1029 : decode cL_law 1029 = .ok (.iconst 2, 1) := by decide +kernel
theorem dL_law_1030 : decode cL_law 1030 = .ok (.iadd, 1) := by decide +kernel
theorem dL_law_1031 : decode cL_law 1031 = .ok (.iaload, 1) := by decide +kernel
theorem dL_law_1032 : decode cL_law 1032 = .ok (.invokevirtual 106, 3) := by decide +kernel
theorem dL_law_1035 : decode cL_law 1035 = .ok (.if_icmp .eq 649, 3) := by decide +kernel
theorem dL_law_1038 : decode cL_law 1038 = .ok (.iconst 0, 1) := by decide +kernel
theorem dL_law_1039 : decode cL_law 1039 = .ok (.ireturn, 1) := by decide +kernel
theorem dL_law_1040 : decode cL_law 1040 = .ok (.aload_n 1, 1) := by decide +kernel
theorem dL_law_1041 : decode cL_law 1041 = .ok (.invokevirtual 107, 3) := by decide +kernel
theorem dL_law_1044 : decode cL_law 1044 = .ok (.aload_n 2, 1) := by decide +kernel
theorem dL_law_1045 : decode cL_law 1045 = .ok (.invokevirtual 111, 3) := by decide +kernel
theorem dL_law_1048 : decode cL_law 1048 = .ok (.if_icmp .eq 636, 3) := by decide +kernel
theorem dL_law_1051 : decode cL_law 1051 = .ok (.iconst 0, 1) := by decide +kernel
theorem dL_law_1052 : decode cL_law 1052 = .ok (.ireturn, 1) := by decide +kernel
theorem dL_law_1053 : decode cL_law 1053 = .ok (.aload_n 1, 1) := by decide +kernel
theorem dL_law_1054 : decode cL_law 1054 = .ok (.aload_n 0, 1) := by decide +kernel
theorem dL_law_1055 : decode cL_law 1055 = .ok (.iload_n 3, 1) := by decide +kernel
theorem dL_law_1056 : decode cL_law 1056 = .ok (.iconst 1, 1) := by decide +kernel
theorem dL_law_1057 : decode cL_law 1057 = .ok (.iadd, 1) := by decide +kernel
theorem dL_law_1058 : decode cL_law 1058 = .ok (.iaload, 1) := by decide +kernel
theorem dL_law_1059 : decode cL_law 1059 = .ok (.invokevirtual 112, 3) := by decide +kernel
theorem dL_law_1062 : decode cL_law 1062 = .ok (.aload_n 2, 1) := by decide +kernel
theorem dL_law_1063 : decode cL_law 1063 = .ok (.aload_n 0, 1) := by decide +kernel
theorem dL_law_1064 : decode cL_law 1064 = .ok (.iload_n 3, 1) := by decide +kernel
theorem dL_law_1065 : decode cL_law 1065 = .ok (.iconst 1, 1) := by decide +kernel
theorem dL_law_1066 : decode cL_law 1066 = .ok (.iadd, 1) := by decide +kernel
theorem dL_law_1067 : decode cL_law 1067 = .ok (.iaload, 1) := by decide +kernel
theorem dL_law_1068 : decode cL_law 1068 = .ok (.invokevirtual 115, 3) := by decide +kernel
theorem dL_law_1071 : decode cL_law 1071 = .ok (.if_icmp .eq 613, 3) := by decide +kernel
theorem dL_law_1074 : decode cL_law 1074 = .ok (.iconst 0, 1) := by decide +kernel
theorem dL_law_1075 : decode cL_law 1075 = .ok (.ireturn, 1) := by decide +kernel
theorem dL_law_1076 : decode cL_law 1076 = .ok (.aload_n 1, 1) := by decide +kernel
theorem dL_law_1077 : decode cL_law 1077 = .ok (.invokevirtual 116, 3) := by decide +kernel
theorem dL_law_1080 : decode cL_law 1080 = .ok (.aload_n 2, 1) := by decide +kernel
theorem dL_law_1081 : decode cL_law 1081 = .ok (.invokevirtual 119, 3) := by decide +kernel
theorem dL_law_1084 : decode cL_law 1084 = .ok (.if_icmp .eq 600, 3) := by decide +kernel
theorem dL_law_1087 : decode cL_law 1087 = .ok (.iconst 0, 1) := by decide +kernel
theorem dL_law_1088 : decode cL_law 1088 = .ok (.ireturn, 1) := by decide +kernel
theorem dL_law_1089 : decode cL_law 1089 = .ok (.aload_n 1, 1) := by decide +kernel
theorem dL_law_1090 : decode cL_law 1090 = .ok (.aload_n 0, 1) := by decide +kernel
theorem dL_law_1091 : decode cL_law 1091 = .ok (.iload_n 3, 1) := by decide +kernel
theorem dL_law_1092 : decode cL_law 1092 = .ok (.iconst 1, 1) := by decide +kernel
theorem dL_law_1093 : decode cL_law 1093 = .ok (.iadd, 1) := by decide +kernel
theorem dL_law_1094 : decode cL_law 1094 = .ok (.iaload, 1) := by decide +kernel
theorem dL_law_1095 : decode cL_law 1095 = .ok (.aload_n 0, 1) := by decide +kernel
theorem dL_law_1096 : decode cL_law 1096 = .ok (.iload_n 3, 1) := by decide +kernel
theorem dL_law_1097 : decode cL_law 1097 = .ok (.iconst 2, 1) := by decide +kernel
theorem dL_law_1098 : decode cL_law 1098 = .ok (.iadd, 1) := by decide +kernel
theorem dL_law_1099 : decode cL_law 1099 = .ok (.iaload, 1) := by decide +kernel
theorem dL_law_1100 : decode cL_law 1100 = .ok (.invokevirtual 120, 3) := by decide +kernel
theorem dL_law_1103 : decode cL_law 1103 = .ok (.aload_n 2, 1) := by decide +kernel
theorem dL_law_1104 : decode cL_law 1104 = .ok (.aload_n 0, 1) := by decide +kernel
theorem dL_law_1105 : decode cL_law 1105 = .ok (.iload_n 3, 1) := by decide +kernel
theorem dL_law_1106 : decode cL_law 1106 = .ok (.iconst 1, 1) := by decide +kernel
theorem dL_law_1107 : decode cL_law 1107 = .ok (.iadd, 1) := by decide +kernel
theorem dL_law_1108 : decode cL_law 1108 = .ok (.iaload, 1) := by decide +kernel
theorem dL_law_1109 : decode cL_law 1109 = .ok (.aload_n 0, 1) := by decide +kernel
theorem dL_law_1110 : decode cL_law 1110 = .ok (.iload_n 3, 1) := by decide +kernel
theorem dL_law_1111 : decode cL_law 1111 = .ok (.iconst 2, 1) := by decide +kernel
theorem dL_law_1112 : decode cL_law 1112 = .ok (.iadd, 1) := by decide +kernel
theorem dL_law_1113 : decode cL_law 1113 = .ok (.iaload, 1) := by decide +kernel
theorem dL_law_1114 : decode cL_law 1114 = .ok (.invokevirtual 123, 3) := by decide +kernel
theorem dL_law_1117 : decode cL_law 1117 = .ok (.if_icmp .eq 567, 3) := by decide +kernel
theorem dL_law_1120 : decode cL_law 1120 = .ok (.iconst 0, 1) := by decide +kernel
theorem dL_law_1121 : decode cL_law 1121 = .ok (.ireturn, 1) := by decide +kernel
theorem dL_law_1122 : decode cL_law 1122 = .ok (.aload_n 1, 1) := by decide +kernel
theorem dL_law_1123 : decode cL_law 1123 = .ok (.aload_n 0, 1) := by decide +kernel
theorem dL_law_1124 : decode cL_law 1124 = .ok (.iload_n 3, 1) := by decide +kernel
theorem dL_law_1125 : decode cL_law 1125 = .ok (.iconst 1, 1) := by decide +kernel
theorem dL_law_1126 : decode cL_law 1126 = .ok (.iadd, 1) := by decide +kernel
theorem dL_law_1127 : decode cL_law 1127 = .ok (.iaload, 1) := by decide +kernel
theorem dL_law_1128 : decode cL_law 1128 = .ok (.aload_n 0, 1) := by decide +kernel
theorem dL_law_1129 : decode cL_law 1129 = .ok (.iload_n 3, 1) := by decide +kernel
theorem dL_law_1130 : decode cL_law 1130 = .ok (.iconst 2, 1) := by decide +kernel
theorem dL_law_1131 : decode cL_law 1131 = .ok (.iadd, 1) := by decide +kernel
theorem dL_law_1132 : decode cL_law 1132 = .ok (.iaload, 1) := by decide +kernel
theorem dL_law_1133 : decode cL_law 1133 = .ok (.invokevirtual 124, 3) := by decide +kernel
theorem dL_law_1136 : decode cL_law 1136 = .ok (.aload_n 2, 1) := by decide +kernel
theorem dL_law_1137 : decode cL_law 1137 = .ok (.aload_n 0, 1) := by decide +kernel
theorem dL_law_1138 : decode cL_law 1138 = .ok (.iload_n 3, 1) := by decide +kernel
theorem dL_law_1139 : decode cL_law 1139 = .ok (.iconst 1, 1) := by decide +kernel
theorem dL_law_1140 : decode cL_law 1140 = .ok (.iadd, 1) := by decide +kernel
theorem dL_law_1141 : decode cL_law 1141 = .ok (.iaload, 1) := by decide +kernel
theorem dL_law_1142 : decode cL_law 1142 = .ok (.aload_n 0, 1) := by decide +kernel
theorem dL_law_1143 : decode cL_law 1143 = .ok (.iload_n 3, 1) := by decide +kernel
theorem dL_law_1144 : decode cL_law 1144 = .ok (.iconst 2, 1) := by decide +kernel
theorem dL_law_1145 : decode cL_law 1145 = .ok (.iadd, 1) := by decide +kernel
theorem dL_law_1146 : decode cL_law 1146 = .ok (.iaload, 1) := by decide +kernel
theorem dL_law_1147 : decode cL_law 1147 = .ok (.invokevirtual 127, 3) := by decide +kernel
theorem dL_law_1150 : decode cL_law 1150 = .ok (.if_icmp .eq 534, 3) := by decide +kernel
theorem dL_law_1153 : decode cL_law 1153 = .ok (.iconst 0, 1) := by decide +kernel
theorem dL_law_1154 : decode cL_law 1154 = .ok (.ireturn, 1) := by decide +kernel
theorem dL_law_1155 : decode cL_law 1155 = .ok (.aload_n 1, 1) := by decide +kernel
theorem dL_law_1156 : decode cL_law 1156 = .ok (.aload_n 0, 1) := by decide +kernel
theorem dL_law_1157 : decode cL_law 1157 = .ok (.iload_n 3, 1) := by decide +kernel
theorem dL_law_1158 : decode cL_law 1158 = .ok (.iconst 1, 1) := by decide +kernel
theorem dL_law_1159 : decode cL_law 1159 = .ok (.iadd, 1) := by decide +kernel
theorem dL_law_1160 : decode cL_law 1160 = .ok (.iaload, 1) := by decide +kernel
theorem dL_law_1161 : decode cL_law 1161 = .ok (.aload_n 0, 1) := by decide +kernel
theorem dL_law_1162 : decode cL_law 1162 = .ok (.iload_n 3, 1) := by decide +kernel
theorem dL_law_1163 : decode cL_law 1163 = .ok (.iconst 2, 1) := by decide +kernel
theorem dL_law_1164 : decode cL_law 1164 = .ok (.iadd, 1) := by decide +kernel
theorem dL_law_1165 : decode cL_law 1165 = .ok (.iaload, 1) := by decide +kernel
theorem dL_law_1166 : decode cL_law 1166 = .ok (.aload_n 0, 1) := by decide +kernel
theorem dL_law_1167 : decode cL_law 1167 = .ok (.iload_n 3, 1) := by decide +kernel
theorem dL_law_1168 : decode cL_law 1168 = .ok (.iconst 3, 1) := by decide +kernel
theorem dL_law_1169 : decode cL_law 1169 = .ok (.iadd, 1) := by decide +kernel
theorem dL_law_1170 : decode cL_law 1170 = .ok (.iaload, 1) := by decide +kernel
theorem dL_law_1171 : decode cL_law 1171 = .ok (.invokevirtual 128, 3) := by decide +kernel
theorem dL_law_1174 : decode cL_law 1174 = .ok (.aload_n 2, 1) := by decide +kernel
theorem dL_law_1175 : decode cL_law 1175 = .ok (.aload_n 0, 1) := by decide +kernel
theorem dL_law_1176 : decode cL_law 1176 = .ok (.iload_n 3, 1) := by decide +kernel
theorem dL_law_1177 : decode cL_law 1177 = .ok (.iconst 1, 1) := by decide +kernel
theorem dL_law_1178 : decode cL_law 1178 = .ok (.iadd, 1) := by decide +kernel
theorem dL_law_1179 : decode cL_law 1179 = .ok (.iaload, 1) := by decide +kernel
theorem dL_law_1180 : decode cL_law 1180 = .ok (.aload_n 0, 1) := by decide +kernel
theorem dL_law_1181 : decode cL_law 1181 = .ok (.iload_n 3, 1) := by decide +kernel
theorem dL_law_1182 : decode cL_law 1182 = .ok (.iconst 2, 1) := by decide +kernel
theorem dL_law_1183 : decode cL_law 1183 = .ok (.iadd, 1) := by decide +kernel
theorem dL_law_1184 : decode cL_law 1184 = .ok (.iaload, 1) := by decide +kernel
theorem dL_law_1185 : decode cL_law 1185 = .ok (.aload_n 0, 1) := by decide +kernel
theorem dL_law_1186 : decode cL_law 1186 = .ok (.iload_n 3, 1) := by decide +kernel
theorem dL_law_1187 : decode cL_law 1187 = .ok (.iconst 3, 1) := by decide +kernel
theorem dL_law_1188 : decode cL_law 1188 = .ok (.iadd, 1) := by decide +kernel
theorem dL_law_1189 : decode cL_law 1189 = .ok (.iaload, 1) := by decide +kernel
theorem dL_law_1190 : decode cL_law 1190 = .ok (.invokevirtual 131, 3) := by decide +kernel
theorem dL_law_1193 : decode cL_law 1193 = .ok (.if_icmp .eq 491, 3) := by decide +kernel
theorem dL_law_1196 : decode cL_law 1196 = .ok (.iconst 0, 1) := by decide +kernel
theorem dL_law_1197 : decode cL_law 1197 = .ok (.ireturn, 1) := by decide +kernel
theorem dL_law_1198 : decode cL_law 1198 = .ok (.aload_n 1, 1) := by decide +kernel
theorem dL_law_1199 : decode cL_law 1199 = .ok (.aload_n 0, 1) := by decide +kernel
theorem dL_law_1200 : decode cL_law 1200 = .ok (.iload_n 3, 1) := by decide +kernel
theorem dL_law_1201 : decode cL_law 1201 = .ok (.iconst 1, 1) := by decide +kernel
theorem dL_law_1202 : decode cL_law 1202 = .ok (.iadd, 1) := by decide +kernel
theorem dL_law_1203 : decode cL_law 1203 = .ok (.iaload, 1) := by decide +kernel
theorem dL_law_1204 : decode cL_law 1204 = .ok (.aload_n 0, 1) := by decide +kernel
theorem dL_law_1205 : decode cL_law 1205 = .ok (.iload_n 3, 1) := by decide +kernel
theorem dL_law_1206 : decode cL_law 1206 = .ok (.iconst 2, 1) := by decide +kernel
theorem dL_law_1207 : decode cL_law 1207 = .ok (.iadd, 1) := by decide +kernel
theorem dL_law_1208 : decode cL_law 1208 = .ok (.iaload, 1) := by decide +kernel
theorem dL_law_1209 : decode cL_law 1209 = .ok (.aload_n 0, 1) := by decide +kernel
theorem dL_law_1210 : decode cL_law 1210 = .ok (.iload_n 3, 1) := by decide +kernel
theorem dL_law_1211 : decode cL_law 1211 = .ok (.iconst 3, 1) := by decide +kernel
theorem dL_law_1212 : decode cL_law 1212 = .ok (.iadd, 1) := by decide +kernel
theorem dL_law_1213 : decode cL_law 1213 = .ok (.iaload, 1) := by decide +kernel
theorem dL_law_1214 : decode cL_law 1214 = .ok (.invokevirtual 132, 3) := by decide +kernel
theorem dL_law_1217 : decode cL_law 1217 = .ok (.aload_n 2, 1) := by decide +kernel
theorem dL_law_1218 : decode cL_law 1218 = .ok (.aload_n 0, 1) := by decide +kernel
theorem dL_law_1219 : decode cL_law 1219 = .ok (.iload_n 3, 1) := by decide +kernel
theorem dL_law_1220 : decode cL_law 1220 = .ok (.iconst 1, 1) := by decide +kernel
theorem dL_law_1221 : decode cL_law 1221 = .ok (.iadd, 1) := by decide +kernel
theorem dL_law_1222 : decode cL_law 1222 = .ok (.iaload, 1) := by decide +kernel
theorem dL_law_1223 : decode cL_law 1223 = .ok (.aload_n 0, 1) := by decide +kernel
theorem dL_law_1224 : decode cL_law 1224 = .ok (.iload_n 3, 1) := by decide +kernel
theorem dL_law_1225 : decode cL_law 1225 = .ok (.iconst 2, 1) := by decide +kernel
theorem dL_law_1226 : decode cL_law 1226 = .ok (.iadd, 1) := by decide +kernel
theorem dL_law_1227 : decode cL_law 1227 = .ok (.iaload, 1) := by decide +kernel
theorem dL_law_1228 : decode cL_law 1228 = .ok (.aload_n 0, 1) := by decide +kernel
theorem dL_law_1229 : decode cL_law 1229 = .ok (.iload_n 3, 1) := by decide +kernel
theorem dL_law_1230 : decode cL_law 1230 = .ok (.iconst 3, 1) := by decide +kernel
theorem dL_law_1231 : decode cL_law 1231 = .ok (.iadd, 1) := by decide +kernel
theorem dL_law_1232 : decode cL_law 1232 = .ok (.iaload, 1) := by decide +kernel
theorem dL_law_1233 : decode cL_law 1233 = .ok (.invokevirtual 135, 3) := by decide +kernel
theorem dL_law_1236 : decode cL_law 1236 = .ok (.if_icmp .eq 448, 3) := by decide +kernel
theorem dL_law_1239 : decode cL_law 1239 = .ok (.iconst 0, 1) := by decide +kernel
theorem dL_law_1240 : decode cL_law 1240 = .ok (.ireturn, 1) := by decide +kernel
theorem dL_law_1241 : decode cL_law 1241 = .ok (.aload_n 1, 1) := by decide +kernel
theorem dL_law_1242 : decode cL_law 1242 = .ok (.aload_n 0, 1) := by decide +kernel
theorem dL_law_1243 : decode cL_law 1243 = .ok (.iload_n 3, 1) := by decide +kernel
theorem dL_law_1244 : decode cL_law 1244 = .ok (.iconst 1, 1) := by decide +kernel
theorem dL_law_1245 : decode cL_law 1245 = .ok (.iadd, 1) := by decide +kernel
theorem dL_law_1246 : decode cL_law 1246 = .ok (.iaload, 1) := by decide +kernel
theorem dL_law_1247 : decode cL_law 1247 = .ok (.aload_n 0, 1) := by decide +kernel
theorem dL_law_1248 : decode cL_law 1248 = .ok (.iload_n 3, 1) := by decide +kernel
theorem dL_law_1249 : decode cL_law 1249 = .ok (.iconst 2, 1) := by decide +kernel
theorem dL_law_1250 : decode cL_law 1250 = .ok (.iadd, 1) := by decide +kernel
theorem dL_law_1251 : decode cL_law 1251 = .ok (.iaload, 1) := by decide +kernel
theorem dL_law_1252 : decode cL_law 1252 = .ok (.invokevirtual 136, 3) := by decide +kernel
theorem dL_law_1255 : decode cL_law 1255 = .ok (.aload_n 2, 1) := by decide +kernel
theorem dL_law_1256 : decode cL_law 1256 = .ok (.aload_n 0, 1) := by decide +kernel
theorem dL_law_1257 : decode cL_law 1257 = .ok (.iload_n 3, 1) := by decide +kernel
theorem dL_law_1258 : decode cL_law 1258 = .ok (.iconst 1, 1) := by decide +kernel
theorem dL_law_1259 : decode cL_law 1259 = .ok (.iadd, 1) := by decide +kernel
theorem dL_law_1260 : decode cL_law 1260 = .ok (.iaload, 1) := by decide +kernel
theorem dL_law_1261 : decode cL_law 1261 = .ok (.aload_n 0, 1) := by decide +kernel
theorem dL_law_1262 : decode cL_law 1262 = .ok (.iload_n 3, 1) := by decide +kernel
theorem dL_law_1263 : decode cL_law 1263 = .ok (.iconst 2, 1) := by decide +kernel
theorem dL_law_1264 : decode cL_law 1264 = .ok (.iadd, 1) := by decide +kernel
theorem dL_law_1265 : decode cL_law 1265 = .ok (.iaload, 1) := by decide +kernel
theorem dL_law_1266 : decode cL_law 1266 = .ok (.invokevirtual 139, 3) := by decide +kernel
theorem dL_law_1269 : decode cL_law 1269 = .ok (.if_icmp .eq 415, 3) := by decide +kernel
theorem dL_law_1272 : decode cL_law 1272 = .ok (.iconst 0, 1) := by decide +kernel
theorem dL_law_1273 : decode cL_law 1273 = .ok (.ireturn, 1) := by decide +kernel
theorem dL_law_1274 : decode cL_law 1274 = .ok (.aload_n 1, 1) := by decide +kernel
theorem dL_law_1275 : decode cL_law 1275 = .ok (.aload_n 0, 1) := by decide +kernel
theorem dL_law_1276 : decode cL_law 1276 = .ok (.iload_n 3, 1) := by decide +kernel
theorem dL_law_1277 : decode cL_law 1277 = .ok (.iconst 1, 1) := by decide +kernel
theorem dL_law_1278 : decode cL_law 1278 = .ok (.iadd, 1) := by decide +kernel
theorem dL_law_1279 : decode cL_law 1279 = .ok (.iaload, 1) := by decide +kernel
theorem dL_law_1280 : decode cL_law 1280 = .ok (.aload_n 0, 1) := by decide +kernel
theorem dL_law_1281 : decode cL_law 1281 = .ok (.iload_n 3, 1) := by decide +kernel
theorem dL_law_1282 : decode cL_law 1282 = .ok (.iconst 2, 1) := by decide +kernel
theorem dL_law_1283 : decode cL_law 1283 = .ok (.iadd, 1) := by decide +kernel
theorem dL_law_1284 : decode cL_law 1284 = .ok (.iaload, 1) := by decide +kernel
theorem dL_law_1285 : decode cL_law 1285 = .ok (.aload_n 0, 1) := by decide +kernel
theorem dL_law_1286 : decode cL_law 1286 = .ok (.iload_n 3, 1) := by decide +kernel
theorem dL_law_1287 : decode cL_law 1287 = .ok (.iconst 3, 1) := by decide +kernel
theorem dL_law_1288 : decode cL_law 1288 = .ok (.iadd, 1) := by decide +kernel
theorem dL_law_1289 : decode cL_law 1289 = .ok (.iaload, 1) := by decide +kernel
theorem dL_law_1290 : decode cL_law 1290 = .ok (.aload_n 0, 1) := by decide +kernel
theorem dL_law_1291 : decode cL_law 1291 = .ok (.iload_n 3, 1) := by decide +kernel
theorem dL_law_1292 : decode cL_law 1292 = .ok (.iconst 4, 1) := by decide +kernel
theorem dL_law_1293 : decode cL_law 1293 = .ok (.iadd, 1) := by decide +kernel
theorem dL_law_1294 : decode cL_law 1294 = .ok (.iaload, 1) := by decide +kernel
theorem dL_law_1295 : decode cL_law 1295 = .ok (.invokevirtual 140, 3) := by decide +kernel
theorem dL_law_1298 : decode cL_law 1298 = .ok (.aload_n 2, 1) := by decide +kernel
theorem dL_law_1299 : decode cL_law 1299 = .ok (.aload_n 0, 1) := by decide +kernel
theorem dL_law_1300 : decode cL_law 1300 = .ok (.iload_n 3, 1) := by decide +kernel
theorem dL_law_1301 : decode cL_law 1301 = .ok (.iconst 1, 1) := by decide +kernel
theorem dL_law_1302 : decode cL_law 1302 = .ok (.iadd, 1) := by decide +kernel
theorem dL_law_1303 : decode cL_law 1303 = .ok (.iaload, 1) := by decide +kernel
theorem dL_law_1304 : decode cL_law 1304 = .ok (.aload_n 0, 1) := by decide +kernel
theorem dL_law_1305 : decode cL_law 1305 = .ok (.iload_n 3, 1) := by decide +kernel
theorem dL_law_1306 : decode cL_law 1306 = .ok (.iconst 2, 1) := by decide +kernel
theorem dL_law_1307 : decode cL_law 1307 = .ok (.iadd, 1) := by decide +kernel
theorem dL_law_1308 : decode cL_law 1308 = .ok (.iaload, 1) := by decide +kernel
theorem dL_law_1309 : decode cL_law 1309 = .ok (.aload_n 0, 1) := by decide +kernel
theorem dL_law_1310 : decode cL_law 1310 = .ok (.iload_n 3, 1) := by decide +kernel
theorem dL_law_1311 : decode cL_law 1311 = .ok (.iconst 3, 1) := by decide +kernel
theorem dL_law_1312 : decode cL_law 1312 = .ok (.iadd, 1) := by decide +kernel
theorem dL_law_1313 : decode cL_law 1313 = .ok (.iaload, 1) := by decide +kernel
theorem dL_law_1314 : decode cL_law 1314 = .ok (.aload_n 0, 1) := by decide +kernel
theorem dL_law_1315 : decode cL_law 1315 = .ok (.iload_n 3, 1) := by decide +kernel
theorem dL_law_1316 : decode cL_law 1316 = .ok (.iconst 4, 1) := by decide +kernel
theorem dL_law_1317 : decode cL_law 1317 = .ok (.iadd, 1) := by decide +kernel
theorem dL_law_1318 : decode cL_law 1318 = .ok (.iaload, 1) := by decide +kernel
theorem dL_law_1319 : decode cL_law 1319 = .ok (.invokevirtual 144, 3) := by decide +kernel
theorem dL_law_1322 : decode cL_law 1322 = .ok (.if_icmp .eq 362, 3) := by decide +kernel
theorem dL_law_1325 : decode cL_law 1325 = .ok (.iconst 0, 1) := by decide +kernel
theorem dL_law_1326 : decode cL_law 1326 = .ok (.ireturn, 1) := by decide +kernel
theorem dL_law_1327 : decode cL_law 1327 = .ok (.aload_n 1, 1) := by decide +kernel
theorem dL_law_1328 : decode cL_law 1328 = .ok (.aload_n 0, 1) := by decide +kernel
theorem dL_law_1329 : decode cL_law 1329 = .ok (.iload_n 3, 1) := by decide +kernel
theorem dL_law_1330 : decode cL_law 1330 = .ok (.iconst 1, 1) := by decide +kernel
theorem dL_law_1331 : decode cL_law 1331 = .ok (.iadd, 1) := by decide +kernel
theorem dL_law_1332 : decode cL_law 1332 = .ok (.iaload, 1) := by decide +kernel
theorem dL_law_1333 : decode cL_law 1333 = .ok (.aload_n 0, 1) := by decide +kernel
theorem dL_law_1334 : decode cL_law 1334 = .ok (.iload_n 3, 1) := by decide +kernel
theorem dL_law_1335 : decode cL_law 1335 = .ok (.iconst 2, 1) := by decide +kernel
theorem dL_law_1336 : decode cL_law 1336 = .ok (.iadd, 1) := by decide +kernel
theorem dL_law_1337 : decode cL_law 1337 = .ok (.iaload, 1) := by decide +kernel
theorem dL_law_1338 : decode cL_law 1338 = .ok (.aload_n 0, 1) := by decide +kernel
theorem dL_law_1339 : decode cL_law 1339 = .ok (.iload_n 3, 1) := by decide +kernel
theorem dL_law_1340 : decode cL_law 1340 = .ok (.iconst 3, 1) := by decide +kernel
theorem dL_law_1341 : decode cL_law 1341 = .ok (.iadd, 1) := by decide +kernel
theorem dL_law_1342 : decode cL_law 1342 = .ok (.iaload, 1) := by decide +kernel
theorem dL_law_1343 : decode cL_law 1343 = .ok (.invokevirtual 145, 3) := by decide +kernel
theorem dL_law_1346 : decode cL_law 1346 = .ok (.aload_n 2, 1) := by decide +kernel
theorem dL_law_1347 : decode cL_law 1347 = .ok (.aload_n 0, 1) := by decide +kernel
theorem dL_law_1348 : decode cL_law 1348 = .ok (.iload_n 3, 1) := by decide +kernel
theorem dL_law_1349 : decode cL_law 1349 = .ok (.iconst 1, 1) := by decide +kernel
theorem dL_law_1350 : decode cL_law 1350 = .ok (.iadd, 1) := by decide +kernel
theorem dL_law_1351 : decode cL_law 1351 = .ok (.iaload, 1) := by decide +kernel
theorem dL_law_1352 : decode cL_law 1352 = .ok (.aload_n 0, 1) := by decide +kernel
theorem dL_law_1353 : decode cL_law 1353 = .ok (.iload_n 3, 1) := by decide +kernel
theorem dL_law_1354 : decode cL_law 1354 = .ok (.iconst 2, 1) := by decide +kernel
theorem dL_law_1355 : decode cL_law 1355 = .ok (.iadd, 1) := by decide +kernel
theorem dL_law_1356 : decode cL_law 1356 = .ok (.iaload, 1) := by decide +kernel
theorem dL_law_1357 : decode cL_law 1357 = .ok (.aload_n 0, 1) := by decide +kernel
theorem dL_law_1358 : decode cL_law 1358 = .ok (.iload_n 3, 1) := by decide +kernel
theorem dL_law_1359 : decode cL_law 1359 = .ok (.iconst 3, 1) := by decide +kernel
theorem dL_law_1360 : decode cL_law 1360 = .ok (.iadd, 1) := by decide +kernel
theorem dL_law_1361 : decode cL_law 1361 = .ok (.iaload, 1) := by decide +kernel
theorem dL_law_1362 : decode cL_law 1362 = .ok (.invokevirtual 148, 3) := by decide +kernel
theorem dL_law_1365 : decode cL_law 1365 = .ok (.if_icmp .eq 319, 3) := by decide +kernel
theorem dL_law_1368 : decode cL_law 1368 = .ok (.iconst 0, 1) := by decide +kernel
theorem dL_law_1369 : decode cL_law 1369 = .ok (.ireturn, 1) := by decide +kernel
theorem dL_law_1370 : decode cL_law 1370 = .ok (.aload_n 1, 1) := by decide +kernel
theorem dL_law_1371 : decode cL_law 1371 = .ok (.aload_n 0, 1) := by decide +kernel
theorem dL_law_1372 : decode cL_law 1372 = .ok (.iload_n 3, 1) := by decide +kernel
theorem dL_law_1373 : decode cL_law 1373 = .ok (.iconst 1, 1) := by decide +kernel
theorem dL_law_1374 : decode cL_law 1374 = .ok (.iadd, 1) := by decide +kernel
theorem dL_law_1375 : decode cL_law 1375 = .ok (.iaload, 1) := by decide +kernel
theorem dL_law_1376 : decode cL_law 1376 = .ok (.aload_n 0, 1) := by decide +kernel
theorem dL_law_1377 : decode cL_law 1377 = .ok (.iload_n 3, 1) := by decide +kernel
theorem dL_law_1378 : decode cL_law 1378 = .ok (.iconst 2, 1) := by decide +kernel
theorem dL_law_1379 : decode cL_law 1379 = .ok (.iadd, 1) := by decide +kernel
theorem dL_law_1380 : decode cL_law 1380 = .ok (.iaload, 1) := by decide +kernel
theorem dL_law_1381 : decode cL_law 1381 = .ok (.ifCond .eq 7, 3) := by decide +kernel
theorem dL_law_1384 : decode cL_law 1384 = .ok (.iconst 1, 1) := by decide +kernel
theorem dL_law_1385 : decode cL_law 1385 = .ok (.goto 4, 3) := by decide +kernel
theorem dL_law_1388 : decode cL_law 1388 = .ok (.iconst 0, 1) := by decide +kernel
theorem dL_law_1389 : decode cL_law 1389 = .ok (.aload_n 0, 1) := by decide +kernel
theorem dL_law_1390 : decode cL_law 1390 = .ok (.iload_n 3, 1) := by decide +kernel
theorem dL_law_1391 : decode cL_law 1391 = .ok (.iconst 3, 1) := by decide +kernel
theorem dL_law_1392 : decode cL_law 1392 = .ok (.iadd, 1) := by decide +kernel
theorem dL_law_1393 : decode cL_law 1393 = .ok (.iaload, 1) := by decide +kernel
theorem dL_law_1394 : decode cL_law 1394 = .ok (.aload_n 0, 1) := by decide +kernel
theorem dL_law_1395 : decode cL_law 1395 = .ok (.iload_n 3, 1) := by decide +kernel
theorem dL_law_1396 : decode cL_law 1396 = .ok (.iconst 4, 1) := by decide +kernel
theorem dL_law_1397 : decode cL_law 1397 = .ok (.iadd, 1) := by decide +kernel
theorem dL_law_1398 : decode cL_law 1398 = .ok (.iaload, 1) := by decide +kernel
theorem dL_law_1399 : decode cL_law 1399 = .ok (.invokevirtual 149, 3) := by decide +kernel
theorem dL_law_1402 : decode cL_law 1402 = .ok (.aload_n 2, 1) := by decide +kernel
theorem dL_law_1403 : decode cL_law 1403 = .ok (.aload_n 0, 1) := by decide +kernel
theorem dL_law_1404 : decode cL_law 1404 = .ok (.iload_n 3, 1) := by decide +kernel
theorem dL_law_1405 : decode cL_law 1405 = .ok (.iconst 1, 1) := by decide +kernel
theorem dL_law_1406 : decode cL_law 1406 = .ok (.iadd, 1) := by decide +kernel
theorem dL_law_1407 : decode cL_law 1407 = .ok (.iaload, 1) := by decide +kernel
theorem dL_law_1408 : decode cL_law 1408 = .ok (.aload_n 0, 1) := by decide +kernel
theorem dL_law_1409 : decode cL_law 1409 = .ok (.iload_n 3, 1) := by decide +kernel
theorem dL_law_1410 : decode cL_law 1410 = .ok (.iconst 2, 1) := by decide +kernel
theorem dL_law_1411 : decode cL_law 1411 = .ok (.iadd, 1) := by decide +kernel
theorem dL_law_1412 : decode cL_law 1412 = .ok (.iaload, 1) := by decide +kernel
theorem dL_law_1413 : decode cL_law 1413 = .ok (.ifCond .eq 7, 3) := by decide +kernel
theorem dL_law_1416 : decode cL_law 1416 = .ok (.iconst 1, 1) := by decide +kernel
theorem dL_law_1417 : decode cL_law 1417 = .ok (.goto 4, 3) := by decide +kernel
theorem dL_law_1420 : decode cL_law 1420 = .ok (.iconst 0, 1) := by decide +kernel
theorem dL_law_1421 : decode cL_law 1421 = .ok (.aload_n 0, 1) := by decide +kernel
theorem dL_law_1422 : decode cL_law 1422 = .ok (.iload_n 3, 1) := by decide +kernel
theorem dL_law_1423 : decode cL_law 1423 = .ok (.iconst 3, 1) := by decide +kernel
theorem dL_law_1424 : decode cL_law 1424 = .ok (.iadd, 1) := by decide +kernel
theorem dL_law_1425 : decode cL_law 1425 = .ok (.iaload, 1) := by decide +kernel
theorem dL_law_1426 : decode cL_law 1426 = .ok (.aload_n 0, 1) := by decide +kernel
theorem dL_law_1427 : decode cL_law 1427 = .ok (.iload_n 3, 1) := by decide +kernel
theorem dL_law_1428 : decode cL_law 1428 = .ok (.iconst 4, 1) := by decide +kernel
theorem dL_law_1429 : decode cL_law 1429 = .ok (.iadd, 1) := by decide +kernel
theorem dL_law_1430 : decode cL_law 1430 = .ok (.iaload, 1) := by decide +kernel
theorem dL_law_1431 : decode cL_law 1431 = .ok (.invokevirtual 153, 3) := by decide +kernel
theorem dL_law_1434 : decode cL_law 1434 = .ok (.if_icmp .eq 250, 3) := by decide +kernel
theorem dL_law_1437 : decode cL_law 1437 = .ok (.iconst 0, 1) := by decide +kernel
theorem dL_law_1438 : decode cL_law 1438 = .ok (.ireturn, 1) := by decide +kernel
theorem dL_law_1439 : decode cL_law 1439 = .ok (.aload_n 1, 1) := by decide +kernel
theorem dL_law_1440 : decode cL_law 1440 = .ok (.aload_n 0, 1) := by decide +kernel
theorem dL_law_1441 : decode cL_law 1441 = .ok (.iload_n 3, 1) := by decide +kernel
theorem dL_law_1442 : decode cL_law 1442 = .ok (.iconst 1, 1) := by decide +kernel
theorem dL_law_1443 : decode cL_law 1443 = .ok (.iadd, 1) := by decide +kernel
theorem dL_law_1444 : decode cL_law 1444 = .ok (.iaload, 1) := by decide +kernel
theorem dL_law_1445 : decode cL_law 1445 = .ok (.aload_n 0, 1) := by decide +kernel
theorem dL_law_1446 : decode cL_law 1446 = .ok (.iload_n 3, 1) := by decide +kernel
theorem dL_law_1447 : decode cL_law 1447 = .ok (.iconst 2, 1) := by decide +kernel
theorem dL_law_1448 : decode cL_law 1448 = .ok (.iadd, 1) := by decide +kernel
theorem dL_law_1449 : decode cL_law 1449 = .ok (.iaload, 1) := by decide +kernel
theorem dL_law_1450 : decode cL_law 1450 = .ok (.invokevirtual 154, 3) := by decide +kernel
theorem dL_law_1453 : decode cL_law 1453 = .ok (.aload_n 2, 1) := by decide +kernel
theorem dL_law_1454 : decode cL_law 1454 = .ok (.aload_n 0, 1) := by decide +kernel
theorem dL_law_1455 : decode cL_law 1455 = .ok (.iload_n 3, 1) := by decide +kernel
theorem dL_law_1456 : decode cL_law 1456 = .ok (.iconst 1, 1) := by decide +kernel
theorem dL_law_1457 : decode cL_law 1457 = .ok (.iadd, 1) := by decide +kernel
theorem dL_law_1458 : decode cL_law 1458 = .ok (.iaload, 1) := by decide +kernel
theorem dL_law_1459 : decode cL_law 1459 = .ok (.aload_n 0, 1) := by decide +kernel
theorem dL_law_1460 : decode cL_law 1460 = .ok (.iload_n 3, 1) := by decide +kernel
theorem dL_law_1461 : decode cL_law 1461 = .ok (.iconst 2, 1) := by decide +kernel
theorem dL_law_1462 : decode cL_law 1462 = .ok (.iadd, 1) := by decide +kernel
theorem dL_law_1463 : decode cL_law 1463 = .ok (.iaload, 1) := by decide +kernel
theorem dL_law_1464 : decode cL_law 1464 = .ok (.invokevirtual 157, 3) := by decide +kernel
theorem dL_law_1467 : decode cL_law 1467 = .ok (.if_icmp .eq 217, 3) := by decide +kernel
theorem dL_law_1470 : decode cL_law 1470 = .ok (.iconst 0, 1) := by decide +kernel
theorem dL_law_1471 : decode cL_law 1471 = .ok (.ireturn, 1) := by decide +kernel
theorem dL_law_1472 : decode cL_law 1472 = .ok (.aload_n 1, 1) := by decide +kernel
theorem dL_law_1473 : decode cL_law 1473 = .ok (.aload_n 0, 1) := by decide +kernel
theorem dL_law_1474 : decode cL_law 1474 = .ok (.iload_n 3, 1) := by decide +kernel
theorem dL_law_1475 : decode cL_law 1475 = .ok (.iconst 1, 1) := by decide +kernel
theorem dL_law_1476 : decode cL_law 1476 = .ok (.iadd, 1) := by decide +kernel
theorem dL_law_1477 : decode cL_law 1477 = .ok (.iaload, 1) := by decide +kernel
theorem dL_law_1478 : decode cL_law 1478 = .ok (.aload_n 0, 1) := by decide +kernel
theorem dL_law_1479 : decode cL_law 1479 = .ok (.iload_n 3, 1) := by decide +kernel
theorem dL_law_1480 : decode cL_law 1480 = .ok (.iconst 2, 1) := by decide +kernel
theorem dL_law_1481 : decode cL_law 1481 = .ok (.iadd, 1) := by decide +kernel
theorem dL_law_1482 : decode cL_law 1482 = .ok (.iaload, 1) := by decide +kernel
theorem dL_law_1483 : decode cL_law 1483 = .ok (.aload_n 0, 1) := by decide +kernel
theorem dL_law_1484 : decode cL_law 1484 = .ok (.iload_n 3, 1) := by decide +kernel
theorem dL_law_1485 : decode cL_law 1485 = .ok (.iconst 3, 1) := by decide +kernel
theorem dL_law_1486 : decode cL_law 1486 = .ok (.iadd, 1) := by decide +kernel
theorem dL_law_1487 : decode cL_law 1487 = .ok (.iaload, 1) := by decide +kernel
theorem dL_law_1488 : decode cL_law 1488 = .ok (.invokevirtual 158, 3) := by decide +kernel
theorem dL_law_1491 : decode cL_law 1491 = .ok (.aload_n 2, 1) := by decide +kernel
theorem dL_law_1492 : decode cL_law 1492 = .ok (.aload_n 0, 1) := by decide +kernel
theorem dL_law_1493 : decode cL_law 1493 = .ok (.iload_n 3, 1) := by decide +kernel
theorem dL_law_1494 : decode cL_law 1494 = .ok (.iconst 1, 1) := by decide +kernel
theorem dL_law_1495 : decode cL_law 1495 = .ok (.iadd, 1) := by decide +kernel
theorem dL_law_1496 : decode cL_law 1496 = .ok (.iaload, 1) := by decide +kernel
theorem dL_law_1497 : decode cL_law 1497 = .ok (.aload_n 0, 1) := by decide +kernel
theorem dL_law_1498 : decode cL_law 1498 = .ok (.iload_n 3, 1) := by decide +kernel
theorem dL_law_1499 : decode cL_law 1499 = .ok (.iconst 2, 1) := by decide +kernel
theorem dL_law_1500 : decode cL_law 1500 = .ok (.iadd, 1) := by decide +kernel
theorem dL_law_1501 : decode cL_law 1501 = .ok (.iaload, 1) := by decide +kernel
theorem dL_law_1502 : decode cL_law 1502 = .ok (.aload_n 0, 1) := by decide +kernel
theorem dL_law_1503 : decode cL_law 1503 = .ok (.iload_n 3, 1) := by decide +kernel
theorem dL_law_1504 : decode cL_law 1504 = .ok (.iconst 3, 1) := by decide +kernel
theorem dL_law_1505 : decode cL_law 1505 = .ok (.iadd, 1) := by decide +kernel
theorem dL_law_1506 : decode cL_law 1506 = .ok (.iaload, 1) := by decide +kernel
theorem dL_law_1507 : decode cL_law 1507 = .ok (.invokevirtual 161, 3) := by decide +kernel
theorem dL_law_1510 : decode cL_law 1510 = .ok (.if_icmp .eq 174, 3) := by decide +kernel
theorem dL_law_1513 : decode cL_law 1513 = .ok (.iconst 0, 1) := by decide +kernel
theorem dL_law_1514 : decode cL_law 1514 = .ok (.ireturn, 1) := by decide +kernel
theorem dL_law_1515 : decode cL_law 1515 = .ok (.aload_n 1, 1) := by decide +kernel
theorem dL_law_1516 : decode cL_law 1516 = .ok (.aload_n 0, 1) := by decide +kernel
theorem dL_law_1517 : decode cL_law 1517 = .ok (.iload_n 3, 1) := by decide +kernel
theorem dL_law_1518 : decode cL_law 1518 = .ok (.iconst 1, 1) := by decide +kernel
theorem dL_law_1519 : decode cL_law 1519 = .ok (.iadd, 1) := by decide +kernel
theorem dL_law_1520 : decode cL_law 1520 = .ok (.iaload, 1) := by decide +kernel
theorem dL_law_1521 : decode cL_law 1521 = .ok (.aload_n 0, 1) := by decide +kernel
theorem dL_law_1522 : decode cL_law 1522 = .ok (.iload_n 3, 1) := by decide +kernel
theorem dL_law_1523 : decode cL_law 1523 = .ok (.iconst 2, 1) := by decide +kernel
theorem dL_law_1524 : decode cL_law 1524 = .ok (.iadd, 1) := by decide +kernel
theorem dL_law_1525 : decode cL_law 1525 = .ok (.iaload, 1) := by decide +kernel
theorem dL_law_1526 : decode cL_law 1526 = .ok (.aload_n 0, 1) := by decide +kernel
theorem dL_law_1527 : decode cL_law 1527 = .ok (.iload_n 3, 1) := by decide +kernel
theorem dL_law_1528 : decode cL_law 1528 = .ok (.iconst 3, 1) := by decide +kernel
theorem dL_law_1529 : decode cL_law 1529 = .ok (.iadd, 1) := by decide +kernel
theorem dL_law_1530 : decode cL_law 1530 = .ok (.iaload, 1) := by decide +kernel
theorem dL_law_1531 : decode cL_law 1531 = .ok (.aload_n 0, 1) := by decide +kernel
theorem dL_law_1532 : decode cL_law 1532 = .ok (.iload_n 3, 1) := by decide +kernel
theorem dL_law_1533 : decode cL_law 1533 = .ok (.iconst 4, 1) := by decide +kernel
theorem dL_law_1534 : decode cL_law 1534 = .ok (.iadd, 1) := by decide +kernel
theorem dL_law_1535 : decode cL_law 1535 = .ok (.iaload, 1) := by decide +kernel
theorem dL_law_1536 : decode cL_law 1536 = .ok (.aload_n 0, 1) := by decide +kernel
theorem dL_law_1537 : decode cL_law 1537 = .ok (.iload_n 3, 1) := by decide +kernel
theorem dL_law_1538 : decode cL_law 1538 = .ok (.iconst 5, 1) := by decide +kernel
theorem dL_law_1539 : decode cL_law 1539 = .ok (.iadd, 1) := by decide +kernel
theorem dL_law_1540 : decode cL_law 1540 = .ok (.iaload, 1) := by decide +kernel
theorem dL_law_1541 : decode cL_law 1541 = .ok (.invokevirtual 162, 3) := by decide +kernel
theorem dL_law_1544 : decode cL_law 1544 = .ok (.aload_n 2, 1) := by decide +kernel
theorem dL_law_1545 : decode cL_law 1545 = .ok (.aload_n 0, 1) := by decide +kernel
theorem dL_law_1546 : decode cL_law 1546 = .ok (.iload_n 3, 1) := by decide +kernel
theorem dL_law_1547 : decode cL_law 1547 = .ok (.iconst 1, 1) := by decide +kernel
theorem dL_law_1548 : decode cL_law 1548 = .ok (.iadd, 1) := by decide +kernel
theorem dL_law_1549 : decode cL_law 1549 = .ok (.iaload, 1) := by decide +kernel
theorem dL_law_1550 : decode cL_law 1550 = .ok (.aload_n 0, 1) := by decide +kernel
theorem dL_law_1551 : decode cL_law 1551 = .ok (.iload_n 3, 1) := by decide +kernel
theorem dL_law_1552 : decode cL_law 1552 = .ok (.iconst 2, 1) := by decide +kernel
theorem dL_law_1553 : decode cL_law 1553 = .ok (.iadd, 1) := by decide +kernel
theorem dL_law_1554 : decode cL_law 1554 = .ok (.iaload, 1) := by decide +kernel
theorem dL_law_1555 : decode cL_law 1555 = .ok (.aload_n 0, 1) := by decide +kernel
theorem dL_law_1556 : decode cL_law 1556 = .ok (.iload_n 3, 1) := by decide +kernel
theorem dL_law_1557 : decode cL_law 1557 = .ok (.iconst 3, 1) := by decide +kernel
theorem dL_law_1558 : decode cL_law 1558 = .ok (.iadd, 1) := by decide +kernel
theorem dL_law_1559 : decode cL_law 1559 = .ok (.iaload, 1) := by decide +kernel
theorem dL_law_1560 : decode cL_law 1560 = .ok (.aload_n 0, 1) := by decide +kernel
theorem dL_law_1561 : decode cL_law 1561 = .ok (.iload_n 3, 1) := by decide +kernel
theorem dL_law_1562 : decode cL_law 1562 = .ok (.iconst 4, 1) := by decide +kernel
theorem dL_law_1563 : decode cL_law 1563 = .ok (.iadd, 1) := by decide +kernel
theorem dL_law_1564 : decode cL_law 1564 = .ok (.iaload, 1) := by decide +kernel
theorem dL_law_1565 : decode cL_law 1565 = .ok (.aload_n 0, 1) := by decide +kernel
theorem dL_law_1566 : decode cL_law 1566 = .ok (.iload_n 3, 1) := by decide +kernel
theorem dL_law_1567 : decode cL_law 1567 = .ok (.iconst 5, 1) := by decide +kernel
theorem dL_law_1568 : decode cL_law 1568 = .ok (.iadd, 1) := by decide +kernel
theorem dL_law_1569 : decode cL_law 1569 = .ok (.iaload, 1) := by decide +kernel
theorem dL_law_1570 : decode cL_law 1570 = .ok (.invokevirtual 166, 3) := by decide +kernel
theorem dL_law_1573 : decode cL_law 1573 = .ok (.if_icmp .eq 111, 3) := by decide +kernel
theorem dL_law_1576 : decode cL_law 1576 = .ok (.iconst 0, 1) := by decide +kernel
theorem dL_law_1577 : decode cL_law 1577 = .ok (.ireturn, 1) := by decide +kernel
theorem dL_law_1578 : decode cL_law 1578 = .ok (.aload_n 1, 1) := by decide +kernel
theorem dL_law_1579 : decode cL_law 1579 = .ok (.aload_n 0, 1) := by decide +kernel
theorem dL_law_1580 : decode cL_law 1580 = .ok (.iload_n 3, 1) := by decide +kernel
theorem dL_law_1581 : decode cL_law 1581 = .ok (.iconst 1, 1) := by decide +kernel
theorem dL_law_1582 : decode cL_law 1582 = .ok (.iadd, 1) := by decide +kernel
theorem dL_law_1583 : decode cL_law 1583 = .ok (.iaload, 1) := by decide +kernel
theorem dL_law_1584 : decode cL_law 1584 = .ok (.aload_n 0, 1) := by decide +kernel
theorem dL_law_1585 : decode cL_law 1585 = .ok (.iload_n 3, 1) := by decide +kernel
theorem dL_law_1586 : decode cL_law 1586 = .ok (.iconst 2, 1) := by decide +kernel
theorem dL_law_1587 : decode cL_law 1587 = .ok (.iadd, 1) := by decide +kernel
theorem dL_law_1588 : decode cL_law 1588 = .ok (.iaload, 1) := by decide +kernel
theorem dL_law_1589 : decode cL_law 1589 = .ok (.invokevirtual 167, 3) := by decide +kernel
theorem dL_law_1592 : decode cL_law 1592 = .ok (.aload_n 2, 1) := by decide +kernel
theorem dL_law_1593 : decode cL_law 1593 = .ok (.aload_n 0, 1) := by decide +kernel
theorem dL_law_1594 : decode cL_law 1594 = .ok (.iload_n 3, 1) := by decide +kernel
theorem dL_law_1595 : decode cL_law 1595 = .ok (.iconst 1, 1) := by decide +kernel
theorem dL_law_1596 : decode cL_law 1596 = .ok (.iadd, 1) := by decide +kernel
theorem dL_law_1597 : decode cL_law 1597 = .ok (.iaload, 1) := by decide +kernel
theorem dL_law_1598 : decode cL_law 1598 = .ok (.aload_n 0, 1) := by decide +kernel
theorem dL_law_1599 : decode cL_law 1599 = .ok (.iload_n 3, 1) := by decide +kernel
theorem dL_law_1600 : decode cL_law 1600 = .ok (.iconst 2, 1) := by decide +kernel
theorem dL_law_1601 : decode cL_law 1601 = .ok (.iadd, 1) := by decide +kernel
theorem dL_law_1602 : decode cL_law 1602 = .ok (.iaload, 1) := by decide +kernel
theorem dL_law_1603 : decode cL_law 1603 = .ok (.invokevirtual 170, 3) := by decide +kernel
theorem dL_law_1606 : decode cL_law 1606 = .ok (.if_icmp .eq 78, 3) := by decide +kernel
theorem dL_law_1609 : decode cL_law 1609 = .ok (.iconst 0, 1) := by decide +kernel
theorem dL_law_1610 : decode cL_law 1610 = .ok (.ireturn, 1) := by decide +kernel
theorem dL_law_1611 : decode cL_law 1611 = .ok (.aload_n 1, 1) := by decide +kernel
theorem dL_law_1612 : decode cL_law 1612 = .ok (.aload_n 0, 1) := by decide +kernel
theorem dL_law_1613 : decode cL_law 1613 = .ok (.iload_n 3, 1) := by decide +kernel
theorem dL_law_1614 : decode cL_law 1614 = .ok (.iconst 1, 1) := by decide +kernel
theorem dL_law_1615 : decode cL_law 1615 = .ok (.iadd, 1) := by decide +kernel
theorem dL_law_1616 : decode cL_law 1616 = .ok (.iaload, 1) := by decide +kernel
theorem dL_law_1617 : decode cL_law 1617 = .ok (.invokevirtual 171, 3) := by decide +kernel
theorem dL_law_1620 : decode cL_law 1620 = .ok (.aload_n 2, 1) := by decide +kernel
theorem dL_law_1621 : decode cL_law 1621 = .ok (.aload_n 0, 1) := by decide +kernel
theorem dL_law_1622 : decode cL_law 1622 = .ok (.iload_n 3, 1) := by decide +kernel
theorem dL_law_1623 : decode cL_law 1623 = .ok (.iconst 1, 1) := by decide +kernel
theorem dL_law_1624 : decode cL_law 1624 = .ok (.iadd, 1) := by decide +kernel
theorem dL_law_1625 : decode cL_law 1625 = .ok (.iaload, 1) := by decide +kernel
theorem dL_law_1626 : decode cL_law 1626 = .ok (.invokevirtual 174, 3) := by decide +kernel
theorem dL_law_1629 : decode cL_law 1629 = .ok (.if_icmp .eq 55, 3) := by decide +kernel
theorem dL_law_1632 : decode cL_law 1632 = .ok (.iconst 0, 1) := by decide +kernel
theorem dL_law_1633 : decode cL_law 1633 = .ok (.ireturn, 1) := by decide +kernel
theorem dL_law_1634 : decode cL_law 1634 = .ok (.aload_n 1, 1) := by decide +kernel
theorem dL_law_1635 : decode cL_law 1635 = .ok (.invokevirtual 175, 3) := by decide +kernel
theorem dL_law_1638 : decode cL_law 1638 = .ok (.aload_n 2, 1) := by decide +kernel
theorem dL_law_1639 : decode cL_law 1639 = .ok (.invokevirtual 178, 3) := by decide +kernel
theorem dL_law_1642 : decode cL_law 1642 = .ok (.if_icmp .eq 42, 3) := by decide +kernel
theorem dL_law_1645 : decode cL_law 1645 = .ok (.iconst 0, 1) := by decide +kernel
theorem dL_law_1646 : decode cL_law 1646 = .ok (.ireturn, 1) := by decide +kernel
theorem dL_law_1647 : decode cL_law 1647 = .ok (.aload_n 1, 1) := by decide +kernel
theorem dL_law_1648 : decode cL_law 1648 = .ok (.invokevirtual 179, 3) := by decide +kernel
theorem dL_law_1651 : decode cL_law 1651 = .ok (.aload_n 2, 1) := by decide +kernel
theorem dL_law_1652 : decode cL_law 1652 = .ok (.invokevirtual 183, 3) := by decide +kernel
theorem dL_law_1655 : decode cL_law 1655 = .ok (.lcmp, 1) := by decide +kernel
theorem dL_law_1656 : decode cL_law 1656 = .ok (.ifCond .eq 28, 3) := by decide +kernel
theorem dL_law_1659 : decode cL_law 1659 = .ok (.iconst 0, 1) := by decide +kernel
theorem dL_law_1660 : decode cL_law 1660 = .ok (.ireturn, 1) := by decide +kernel
theorem dL_law_1661 : decode cL_law 1661 = .ok (.aload_n 1, 1) := by decide +kernel
theorem dL_law_1662 : decode cL_law 1662 = .ok (.aload_n 0, 1) := by decide +kernel
theorem dL_law_1663 : decode cL_law 1663 = .ok (.iload_n 3, 1) := by decide +kernel
theorem dL_law_1664 : decode cL_law 1664 = .ok (.iconst 1, 1) := by decide +kernel
theorem dL_law_1665 : decode cL_law 1665 = .ok (.iadd, 1) := by decide +kernel
theorem dL_law_1666 : decode cL_law 1666 = .ok (.iaload, 1) := by decide +kernel
theorem dL_law_1667 : decode cL_law 1667 = .ok (.invokevirtual 184, 3) := by decide +kernel
theorem dL_law_1670 : decode cL_law 1670 = .ok (.aload_n 2, 1) := by decide +kernel
theorem dL_law_1671 : decode cL_law 1671 = .ok (.aload_n 0, 1) := by decide +kernel
theorem dL_law_1672 : decode cL_law 1672 = .ok (.iload_n 3, 1) := by decide +kernel
theorem dL_law_1673 : decode cL_law 1673 = .ok (.iconst 1, 1) := by decide +kernel
theorem dL_law_1674 : decode cL_law 1674 = .ok (.iadd, 1) := by decide +kernel
theorem dL_law_1675 : decode cL_law 1675 = .ok (.iaload, 1) := by decide +kernel
theorem dL_law_1676 : decode cL_law 1676 = .ok (.invokevirtual 187, 3) := by decide +kernel
theorem dL_law_1679 : decode cL_law 1679 = .ok (.if_icmp .eq 5, 3) := by decide +kernel
theorem dL_law_1682 : decode cL_law 1682 = .ok (.iconst 0, 1) := by decide +kernel
theorem dL_law_1683 : decode cL_law 1683 = .ok (.ireturn, 1) := by decide +kernel
theorem dL_law_1684 : decode cL_law 1684 = .ok (.iinc 3 7, 3) := by decide +kernel
theorem dL_law_1687 : decode cL_law 1687 = .ok (.goto (-1669), 3) := by decide +kernel
theorem dL_law_1690 : decode cL_law 1690 = .ok (.iconst 1, 1) := by decide +kernel
theorem dL_law_1691 : decode cL_law 1691 = .ok (.ireturn, 1) := by decide +kernel
