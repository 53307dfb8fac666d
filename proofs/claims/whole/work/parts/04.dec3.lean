theorem dX12_equal_181 : decode cX12_equal 181 = .ok (.getfield 60, 3) := by decide +kernel
theorem dX12_equal_184 : decode cX12_equal 184 = .ok (.iload 5, 2) := by decide +kernel
theorem dX12_equal_186 : decode cX12_equal 186 = .ok (.iaload, 1) := by decide +kernel
theorem dX12_equal_187 : decode cX12_equal 187 = .ok (.if_icmp .ne 41, 3) := by decide +kernel
theorem dX12_equal_190 : decode cX12_equal 190 = .ok (.aload_n 0, 1) := by decide +kernel
theorem dX12_equal_191 : decode cX12_equal 191 = .ok (.getfield 63, 3) := by decide +kernel
theorem dX12_equal_194 : decode cX12_equal 194 = .ok (.iload 4, 2) := by decide +kernel
theorem dX12_equal_196 : decode cX12_equal 196 = .ok (.iaload, 1) := by decide +kernel
theorem dX12_equal_197 : decode cX12_equal 197 = .ok (.aload_n 0, 1) := by decide +kernel
theorem dX12_equal_198 : decode cX12_equal 198 = .ok (.getfield 63, 3) := by decide +kernel
theorem dX12_equal_201 : decode cX12_equal 201 = .ok (.iload 5, 2) := by decide +kernel
theorem dX12_equal_203 : decode cX12_equal 203 = .ok (.iaload, 1) := by decide +kernel
theorem dX12_equal_204 : decode cX12_equal 204 = .ok (.if_icmp .ne 24, 3) := by decide +kernel
theorem dX12_equal_207 : decode cX12_equal 207 = .ok (.aload_n 0, 1) := by decide +kernel
theorem dX12_equal_208 : decode cX12_equal 208 = .ok (.getfield 66, 3) := by decide +kernel
theorem dX12_equal_211 : decode cX12_equal 211 = .ok (.iload 4, 2) := by decide +kernel
theorem dX12_equal_213 : decode cX12_equal 213 = .ok (.iaload, 1) := by decide +kernel
theorem dX12_equal_214 : decode cX12_equal 214 = .ok (.aload_n 0, 1) := by decide +kernel
theorem dX12_equal_215 : decode cX12_equal 215 = .ok (.getfield 66, 3) := by decide +kernel
theorem dX12_equal_218 : decode cX12_equal 218 = .ok (.iload 5, 2) := by decide +kernel
theorem dX12_equal_220 : decode cX12_equal 220 = .ok (.iaload, 1) := by decide +kernel
theorem dX12_equal_221 : decode cX12_equal 221 = .ok (.if_icmp .ne 7, 3) := by decide +kernel
theorem dX12_equal_224 : decode cX12_equal 224 = .ok (.iconst 1, 1) := by decide +kernel
theorem dX12_equal_225 : decode cX12_equal 225 = .ok (.goto 4, 3) := by decide +kernel
theorem dX12_equal_228 : decode cX12_equal 228 = .ok (.iconst 0, 1) := by decide +kernel
theorem dX12_equal_229 : decode cX12_equal 229 = .ok (.istore_n 3, 1) := by decide +kernel
theorem dX12_equal_230 : decode cX12_equal 230 = .ok (.aload_n 0, 1) := by decide +kernel
theorem dX12_equal_231 : decode cX12_equal 231 = .ok (.iload_n 1, 1) := by decide +kernel
theorem dX12_equal_232 : decode cX12_equal 232 = .ok (.iload 4, 2) := by decide +kernel
theorem dX12_equal_234 : decode cX12_equal 234 = .ok (.invokevirtual 315, 3) := by decide +kernel
theorem dX12_equal_237 : decode cX12_equal 237 = .ok (.istore 4, 2) := by decide +kernel
theorem dX12_equal_239 : decode cX12_equal 239 = .ok (.aload_n 0, 1) := by decide +kernel
theorem dX12_equal_240 : decode cX12_equal 240 = .ok (.iload_n 2, 1) := by decide +kernel
theorem dX12_equal_241 : decode cX12_equal 241 = .ok (.iload 5, 2) := by decide +kernel
theorem dX12_equal_243 : decode cX12_equal 243 = .ok (.invokevirtual 315, 3) := by decide +kernel
theorem dX12_equal_246 : decode cX12_equal 246 = .ok (.istore 5, 2) := by decide +kernel
theorem dX12_equal_248 : decode cX12_equal 248 = .ok (.goto (-131), 3) := by decide +kernel
theorem dX12_equal_251 : decode cX12_equal 251 = .ok (.iload_n 3, 1) := by decide +kernel
theorem dX12_equal_252 : decode cX12_equal 252 = .ok (.ifCond .eq 19, 3) := by decide +kernel
theorem dX12_equal_255 : decode cX12_equal 255 = .ok (.iload 4, 2) := by decide +kernel
theorem dX12_equal_257 : decode cX12_equal 257 = .ok (.iconst (-1), 1) := by decide +kernel
theorem dX12_equal_258 : decode cX12_equal 258 = .ok (.if_icmp .ne 13, 3) := by decide +kernel
theorem dX12_equal_261 : decode cX12_equal 261 = .ok (.iload 5, 2) := by decide +kernel
theorem dX12_equal_263 : decode cX12_equal 263 = .ok (.iconst (-1), 1) := by decide +kernel
theorem dX12_equal_264 : decode cX12_equal 264 = .ok (.if_icmp .ne 7, 3) := by decide +kernel
theorem dX12_equal_267 : decode cX12_equal 267 = .ok (.iconst 1, 1) := by decide +kernel
theorem dX12_equal_268 : decode cX12_equal 268 = .ok (.goto 4, 3) := by decide +kernel
theorem dX12_equal_271 : decode cX12_equal 271 = .ok (.iconst 0, 1) := by decide +kernel
theorem dX12_equal_272 : decode cX12_equal 272 = .ok (.ireturn, 1) := by decide +kernel
theorem dX12_rack_0 : decode cX12_rack 0 = .ok (.aload_n 0, 1) := by decide +kernel
theorem dX12_rack_1 : decode cX12_rack 1 = .ok (.invokevirtual 144, 3) := by decide +kernel
theorem dX12_rack_4 : decode cX12_rack 4 = .ok (.iload_n 1, 1) := by decide +kernel
theorem dX12_rack_5 : decode cX12_rack 5 = .ok (.i2l, 1) := by decide +kernel
theorem dX12_rack_6 : decode cX12_rack 6 = .ok (.lconst 0, 1) := by decide +kernel
theorem dX12_rack_7 : decode cX12_rack 7 = .ok (.ldc2_w 231, 3) := by decide +kernel
theorem dX12_rack_10 : decode cX12_rack 10 = .ok (.invokestatic 137, 3) := by decide +kernel
theorem dX12_rack_13 : decode cX12_rack 13 = .ok (.ifCond .eq 21, 3) := by decide +kernel
theorem dX12_rack_16 : decode cX12_rack 16 = .ok (.iload_n 2, 1) := by decide +kernel
theorem dX12_rack_17 : decode cX12_rack 17 = .ok (.i2l, 1) := by decide +kernel
theorem dX12_rack_18 : decode cX12_rack 18 = .ok (.lconst 0, 1) := by decide +kernel
theorem dX12_rack_19 : decode cX12_rack 19 = .ok (.ldc2_w 147, 3) := by decide +kernel
theorem dX12_rack_22 : decode cX12_rack 22 = .ok (.invokestatic 137, 3) := by decide +kernel
theorem dX12_rack_25 : decode cX12_rack 25 = .ok (.ifCond .eq 9, 3) := by decide +kernel
theorem dX12_rack_28 : decode cX12_rack 28 = .ok (.iload_n 3, 1) := by decide +kernel
theorem dX12_rack_29 : decode cX12_rack 29 = .ok (.bipush 20, 2) := by decide +kernel
theorem dX12_rack_31 : decode cX12_rack 31 = .ok (.if_icmp .le 10, 3) := by decide +kernel
theorem dX12_rack_34 : decode cX12_rack 34 = .ok (.aload_n 0, 1) := by decide +kernel
theorem dX12_rack_35 : decode cX12_rack 35 = .ok (.bipush (-2), 2) := by decide +kernel
theorem dX12_rack_37 : decode cX12_rack 37 = .ok (.invokevirtual 130, 3) := by decide +kernel
theorem dX12_rack_40 : decode cX12_rack 40 = .ok (.ireturn, 1) := by decide +kernel
theorem dX12_rack_41 : decode cX12_rack 41 = .ok (.iload_n 3, 1) := by decide +kernel
theorem dX12_rack_42 : decode cX12_rack 42 = .ok (.ifCond .ge 10, 3) := by decide +kernel
theorem dX12_rack_45 : decode cX12_rack 45 = .ok (.aload_n 0, 1) := by decide +kernel
theorem dX12_rack_46 : decode cX12_rack 46 = .ok (.bipush (-15), 2) := by decide +kernel
theorem dX12_rack_48 : decode cX12_rack 48 = .ok (.invokevirtual 211, 3) := by decide +kernel
theorem dX12_rack_51 : decode cX12_rack 51 = .ok (.ireturn, 1) := by decide +kernel
theorem dX12_rack_52 : decode cX12_rack 52 = .ok (.aload_n 0, 1) := by decide +kernel
theorem dX12_rack_53 : decode cX12_rack 53 = .ok (.getfield 87, 3) := by decide +kernel
theorem dX12_rack_56 : decode cX12_rack 56 = .ok (.iload_n 1, 1) := by decide +kernel
theorem dX12_rack_57 : decode cX12_rack 57 = .ok (.iconst 1, 1) := by decide +kernel
theorem dX12_rack_58 : decode cX12_rack 58 = .ok (.bastore, 1) := by decide +kernel
theorem dX12_rack_59 : decode cX12_rack 59 = .ok (.aload_n 0, 1) := by decide +kernel
theorem dX12_rack_60 : decode cX12_rack 60 = .ok (.getfield 90, 3) := by decide +kernel
theorem dX12_rack_63 : decode cX12_rack 63 = .ok (.iload_n 1, 1) := by decide +kernel
theorem dX12_rack_64 : decode cX12_rack 64 = .ok (.iload_n 2, 1) := by decide +kernel
theorem dX12_rack_65 : decode cX12_rack 65 = .ok (.iastore, 1) := by decide +kernel
theorem dX12_rack_66 : decode cX12_rack 66 = .ok (.aload_n 0, 1) := by decide +kernel
theorem dX12_rack_67 : decode cX12_rack 67 = .ok (.getfield 93, 3) := by decide +kernel
theorem dX12_rack_70 : decode cX12_rack 70 = .ok (.iload_n 1, 1) := by decide +kernel
theorem dX12_rack_71 : decode cX12_rack 71 = .ok (.iload_n 3, 1) := by decide +kernel
theorem dX12_rack_72 : decode cX12_rack 72 = .ok (.iastore, 1) := by decide +kernel
theorem dX12_rack_73 : decode cX12_rack 73 = .ok (.iconst 0, 1) := by decide +kernel
theorem dX12_rack_74 : decode cX12_rack 74 = .ok (.istore 4, 2) := by decide +kernel
theorem dX12_rack_76 : decode cX12_rack 76 = .ok (.iload 4, 2) := by decide +kernel
theorem dX12_rack_78 : decode cX12_rack 78 = .ok (.bipush 20, 2) := by decide +kernel
theorem dX12_rack_80 : decode cX12_rack 80 = .ok (.if_icmp .ge 22, 3) := by decide +kernel
theorem dX12_rack_83 : decode cX12_rack 83 = .ok (.aload_n 0, 1) := by decide +kernel
theorem dX12_rack_84 : decode cX12_rack 84 = .ok (.getfield 96, 3) := by decide +kernel
theorem dX12_rack_87 : decode cX12_rack 87 = .ok (.bipush 20, 2) := by decide +kernel
theorem dX12_rack_89 : decode cX12_rack 89 = .ok (.iload_n 1, 1) := by decide +kernel
theorem dX12_rack_90 : decode cX12_rack 90 = .ok (.imul, 1) := by decide +kernel
theorem dX12_rack_91 : decode cX12_rack 91 = .ok (.iload 4, 2) := by decide +kernel
theorem dX12_rack_93 : decode cX12_rack 93 = .ok (.iadd, 1) := by decide +kernel
theorem dX12_rack_94 : decode cX12_rack 94 = .ok (.iconst (-1), 1) := by decide +kernel
theorem dX12_rack_95 : decode cX12_rack 95 = .ok (.iastore, 1) := by decide +kernel
theorem dX12_rack_96 : decode cX12_rack 96 = .ok (.iinc 4 1, 3) := by decide +kernel
theorem dX12_rack_99 : decode cX12_rack 99 = .ok (.goto (-23), 3) := by decide +kernel
theorem dX12_rack_102 : decode cX12_rack 102 = .ok (.iconst 1, 1) := by decide +kernel
theorem dX12_rack_103 : decode cX12_rack 103 = .ok (.ireturn, 1) := by decide +kernel
theorem dX12_isOf_0 : decode cX12_isOf 0 = .ok (.iload_n 2, 1) := by decide +kernel
theorem dX12_isOf_1 : decode cX12_isOf 1 = .ok (.iconst 5, 1) := by decide +kernel
theorem dX12_isOf_2 : decode cX12_isOf 2 = .ok (.if_icmp .eq 38, 3) := by decide +kernel
theorem dX12_isOf_5 : decode cX12_isOf 5 = .ok (.iload_n 2, 1) := by decide +kernel
theorem dX12_isOf_6 : decode cX12_isOf 6 = .ok (.aload_n 0, 1) := by decide +kernel
theorem dX12_isOf_7 : decode cX12_isOf 7 = .ok (.getfield 24, 3) := by decide +kernel
theorem dX12_isOf_10 : decode cX12_isOf 10 = .ok (.iload_n 1, 1) := by decide +kernel
theorem dX12_isOf_11 : decode cX12_isOf 11 = .ok (.iaload, 1) := by decide +kernel
theorem dX12_isOf_12 : decode cX12_isOf 12 = .ok (.if_icmp .eq 28, 3) := by decide +kernel
theorem dX12_isOf_15 : decode cX12_isOf 15 = .ok (.iload_n 2, 1) := by decide +kernel
theorem dX12_isOf_16 : decode cX12_isOf 16 = .ok (.ifCond .ne 11, 3) := by decide +kernel
theorem dX12_isOf_19 : decode cX12_isOf 19 = .ok (.aload_n 0, 1) := by decide +kernel
theorem dX12_isOf_20 : decode cX12_isOf 20 = .ok (.iload_n 1, 1) := by decide +kernel
theorem dX12_isOf_21 : decode cX12_isOf 21 = .ok (.invokevirtual 214, 3) := by decide +kernel
theorem dX12_isOf_24 : decode cX12_isOf 24 = .ok (.ifCond .ne 16, 3) := by decide +kernel
theorem dX12_isOf_27 : decode cX12_isOf 27 = .ok (.iload_n 2, 1) := by decide +kernel
theorem dX12_isOf_28 : decode cX12_isOf 28 = .ok (.iconst 3, 1) := by decide +kernel
theorem dX12_isOf_29 : decode cX12_isOf 29 = .ok (.if_icmp .ne 15, 3) := by decide +kernel
theorem dX12_isOf_32 : decode cX12_isOf 32 = .ok (.aload_n 0, 1) := by decide +kernel
theorem dX12_isOf_33 : decode cX12_isOf 33 = .ok (.iload_n 1, 1) := by decide +kernel
theorem dX12_isOf_34 : decode cX12_isOf 34 = .ok (.invokevirtual 214, 3) := by decide +kernel
theorem dX12_isOf_37 : decode cX12_isOf 37 = .ok (.ifCond .ne 7, 3) := by decide +kernel
theorem dX12_isOf_40 : decode cX12_isOf 40 = .ok (.iconst 1, 1) := by decide +kernel
theorem dX12_isOf_41 : decode cX12_isOf 41 = .ok (.goto 4, 3) := by decide +kernel
theorem dX12_isOf_44 : decode cX12_isOf 44 = .ok (.iconst 0, 1) := by decide +kernel
theorem dX12_isOf_45 : decode cX12_isOf 45 = .ok (.ireturn, 1) := by decide +kernel
theorem dX12_hold_0 : decode cX12_hold 0 = .ok (.aload_n 0, 1) := by decide +kernel
theorem dX12_hold_1 : decode cX12_hold 1 = .ok (.invokevirtual 144, 3) := by decide +kernel
theorem dX12_hold_4 : decode cX12_hold 4 = .ok (.iload_n 1, 1) := by decide +kernel
theorem dX12_hold_5 : decode cX12_hold 5 = .ok (.i2l, 1) := by decide +kernel
theorem dX12_hold_6 : decode cX12_hold 6 = .ok (.lconst 0, 1) := by decide +kernel
theorem dX12_hold_7 : decode cX12_hold 7 = .ok (.ldc2_w 231, 3) := by decide +kernel
theorem dX12_hold_10 : decode cX12_hold 10 = .ok (.invokestatic 137, 3) := by decide +kernel
theorem dX12_hold_13 : decode cX12_hold 13 = .ok (.ifCond .eq 16, 3) := by decide +kernel
theorem dX12_hold_16 : decode cX12_hold 16 = .ok (.iload_n 3, 1) := by decide +kernel
theorem dX12_hold_17 : decode cX12_hold 17 = .ok (.iconst (-1), 1) := by decide +kernel
theorem dX12_hold_18 : decode cX12_hold 18 = .ok (.if_icmp .eq 18, 3) := by decide +kernel
theorem dX12_hold_21 : decode cX12_hold 21 = .ok (.aload_n 0, 1) := by decide +kernel
theorem dX12_hold_22 : decode cX12_hold 22 = .ok (.iload_n 3, 1) := by decide +kernel
theorem dX12_hold_23 : decode cX12_hold 23 = .ok (.invokevirtual 193, 3) := by decide +kernel
theorem dX12_hold_26 : decode cX12_hold 26 = .ok (.ifCond .ne 10, 3) := by decide +kernel
theorem dX12_hold_29 : decode cX12_hold 29 = .ok (.aload_n 0, 1) := by decide +kernel
theorem dX12_hold_30 : decode cX12_hold 30 = .ok (.bipush (-2), 2) := by decide +kernel
theorem dX12_hold_32 : decode cX12_hold 32 = .ok (.invokevirtual 130, 3) := by decide +kernel
theorem dX12_hold_35 : decode cX12_hold 35 = .ok (.ireturn, 1) := by decide +kernel
theorem dX12_hold_36 : decode cX12_hold 36 = .ok (.aload_n 0, 1) := by decide +kernel
theorem dX12_hold_37 : decode cX12_hold 37 = .ok (.getfield 87, 3) := by decide +kernel
theorem dX12_hold_40 : decode cX12_hold 40 = .ok (.iload_n 1, 1) := by decide +kernel
theorem dX12_hold_41 : decode cX12_hold 41 = .ok (.baload, 1) := by decide +kernel
theorem dX12_hold_42 : decode cX12_hold 42 = .ok (.ifCond .ne 10, 3) := by decide +kernel
theorem dX12_hold_45 : decode cX12_hold 45 = .ok (.aload_n 0, 1) := by decide +kernel
theorem dX12_hold_46 : decode cX12_hold 46 = .ok (.bipush (-11), 2) := by decide +kernel
theorem dX12_hold_48 : decode cX12_hold 48 = .ok (.invokevirtual 211, 3) := by decide +kernel
theorem dX12_hold_51 : decode cX12_hold 51 = .ok (.ireturn, 1) := by decide +kernel
theorem dX12_hold_52 : decode cX12_hold 52 = .ok (.iload_n 2, 1) := by decide +kernel
theorem dX12_hold_53 : decode cX12_hold 53 = .ok (.i2l, 1) := by decide +kernel
theorem dX12_hold_54 : decode cX12_hold 54 = .ok (.lconst 0, 1) := by decide +kernel
theorem dX12_hold_55 : decode cX12_hold 55 = .ok (.aload_n 0, 1) := by decide +kernel
theorem dX12_hold_56 : decode cX12_hold 56 = .ok (.getfield 93, 3) := by decide +kernel
theorem dX12_hold_59 : decode cX12_hold 59 = .ok (.iload_n 1, 1) := by decide +kernel
theorem dX12_hold_60 : decode cX12_hold 60 = .ok (.iaload, 1) := by decide +kernel
theorem dX12_hold_61 : decode cX12_hold 61 = .ok (.iconst 1, 1) := by decide +kernel
theorem dX12_hold_62 : decode cX12_hold 62 = .ok (.isub, 1) := by decide +kernel
theorem dX12_hold_63 : decode cX12_hold 63 = .ok (.i2l, 1) := by decide +kernel
theorem dX12_hold_64 : decode cX12_hold 64 = .ok (.invokestatic 137, 3) := by decide +kernel
theorem dX12_hold_67 : decode cX12_hold 67 = .ok (.ifCond .ne 10, 3) := by decide +kernel
theorem dX12_hold_70 : decode cX12_hold 70 = .ok (.aload_n 0, 1) := by decide +kernel
theorem dX12_hold_71 : decode cX12_hold 71 = .ok (.bipush (-12), 2) := by decide +kernel
theorem dX12_hold_73 : decode cX12_hold 73 = .ok (.invokevirtual 211, 3) := by decide +kernel
theorem dX12_hold_76 : decode cX12_hold 76 = .ok (.ireturn, 1) := by decide +kernel
theorem dX12_hold_77 : decode cX12_hold 77 = .ok (.iload_n 3, 1) := by decide +kernel
theorem dX12_hold_78 : decode cX12_hold 78 = .ok (.iconst (-1), 1) := by decide +kernel
theorem dX12_hold_79 : decode cX12_hold 79 = .ok (.if_icmp .eq 24, 3) := by decide +kernel
theorem dX12_hold_82 : decode cX12_hold 82 = .ok (.aload_n 0, 1) := by decide +kernel
theorem dX12_hold_83 : decode cX12_hold 83 = .ok (.iload_n 3, 1) := by decide +kernel
theorem dX12_hold_84 : decode cX12_hold 84 = .ok (.aload_n 0, 1) := by decide +kernel
theorem dX12_hold_85 : decode cX12_hold 85 = .ok (.getfield 90, 3) := by decide +kernel
theorem dX12_hold_88 : decode cX12_hold 88 = .ok (.iload_n 1, 1) := by decide +kernel
theorem dX12_hold_89 : decode cX12_hold 89 = .ok (.iaload, 1) := by decide +kernel
theorem dX12_hold_90 : decode cX12_hold 90 = .ok (.invokevirtual 318, 3) := by decide +kernel
theorem dX12_hold_93 : decode cX12_hold 93 = .ok (.ifCond .ne 10, 3) := by decide +kernel
theorem dX12_hold_96 : decode cX12_hold 96 = .ok (.aload_n 0, 1) := by decide +kernel
theorem dX12_hold_97 : decode cX12_hold 97 = .ok (.bipush (-14), 2) := by decide +kernel
theorem dX12_hold_99 : decode cX12_hold 99 = .ok (.invokevirtual 211, 3) := by decide +kernel
theorem dX12_hold_102 : decode cX12_hold 102 = .ok (.ireturn, 1) := by decide +kernel
theorem dX12_hold_103 : decode cX12_hold 103 = .ok (.aload_n 0, 1) := by decide +kernel
theorem dX12_hold_104 : decode cX12_hold 104 = .ok (.getfield 96, 3) := by decide +kernel
theorem dX12_hold_107 : decode cX12_hold 107 = .ok (.bipush 20, 2) := by decide +kernel
theorem dX12_hold_109 : decode cX12_hold 109 = .ok (.iload_n 1, 1) := by decide +kernel
theorem dX12_hold_110 : decode cX12_hold 110 = .ok (.imul, 1) := by decide +kernel
theorem dX12_hold_111 : decode cX12_hold 111 = .ok (.iload_n 2, 1) := by decide +kernel
theorem dX12_hold_112 : decode cX12_hold 112 = .ok (.iadd, 1) := by decide +kernel
theorem dX12_hold_113 : decode cX12_hold 113 = .ok (.iload_n 3, 1) := by decide +kernel
theorem dX12_hold_114 : decode cX12_hold 114 = .ok (.iastore, 1) := by decide +kernel
theorem dX12_hold_115 : decode cX12_hold 115 = .ok (.iconst 1, 1) := by decide +kernel
theorem dX12_hold_116 : decode cX12_hold 116 = .ok (.ireturn, 1) := by decide +kernel
theorem dX12_held_0 : decode cX12_held 0 = .ok (.aload_n 0, 1) := by decide +kernel
theorem dX12_held_1 : decode cX12_held 1 = .ok (.invokevirtual 144, 3) := by decide +kernel
theorem dX12_held_4 : decode cX12_held 4 = .ok (.iload_n 1, 1) := by decide +kernel
theorem dX12_held_5 : decode cX12_held 5 = .ok (.i2l, 1) := by decide +kernel
theorem dX12_held_6 : decode cX12_held 6 = .ok (.lconst 0, 1) := by decide +kernel
theorem dX12_held_7 : decode cX12_held 7 = .ok (.ldc2_w 231, 3) := by decide +kernel
theorem dX12_held_10 : decode cX12_held 10 = .ok (.invokestatic 137, 3) := by decide +kernel
theorem dX12_held_13 : decode cX12_held 13 = .ok (.ifCond .ne 10, 3) := by decide +kernel
theorem dX12_held_16 : decode cX12_held 16 = .ok (.aload_n 0, 1) := by decide +kernel
theorem dX12_held_17 : decode cX12_held 17 = .ok (.bipush (-2), 2) := by decide +kernel
theorem dX12_held_19 : decode cX12_held 19 = .ok (.invokevirtual 130, 3) := by decide +kernel
theorem dX12_held_22 : decode cX12_held 22 = .ok (.ireturn, 1) := by decide +kernel
theorem dX12_held_23 : decode cX12_held 23 = .ok (.aload_n 0, 1) := by decide +kernel
theorem dX12_held_24 : decode cX12_held 24 = .ok (.getfield 87, 3) := by decide +kernel
theorem dX12_held_27 : decode cX12_held 27 = .ok (.iload_n 1, 1) := by decide +kernel
theorem dX12_held_28 : decode cX12_held 28 = .ok (.baload, 1) := by decide +kernel
theorem dX12_held_29 : decode cX12_held 29 = .ok (.ifCond .ne 10, 3) := by decide +kernel
theorem dX12_held_32 : decode cX12_held 32 = .ok (.aload_n 0, 1) := by decide +kernel
theorem dX12_held_33 : decode cX12_held 33 = .ok (.bipush (-11), 2) := by decide +kernel
theorem dX12_held_35 : decode cX12_held 35 = .ok (.invokevirtual 211, 3) := by decide +kernel
theorem dX12_held_38 : decode cX12_held 38 = .ok (.ireturn, 1) := by decide +kernel
theorem dX12_held_39 : decode cX12_held 39 = .ok (.iload_n 2, 1) := by decide +kernel
theorem dX12_held_40 : decode cX12_held 40 = .ok (.i2l, 1) := by decide +kernel
theorem dX12_held_41 : decode cX12_held 41 = .ok (.lconst 0, 1) := by decide +kernel
theorem dX12_held_42 : decode cX12_held 42 = .ok (.aload_n 0, 1) := by decide +kernel
theorem dX12_held_43 : decode cX12_held 43 = .ok (.getfield 93, 3) := by decide +kernel
theorem dX12_held_46 : decode cX12_held 46 = .ok (.iload_n 1, 1) := by decide +kernel
theorem dX12_held_47 : decode cX12_held 47 = .ok (.iaload, 1) := by decide +kernel
theorem dX12_held_48 : decode cX12_held 48 = .ok (.iconst 1, 1) := by decide +kernel
theorem dX12_held_49 : decode cX12_held 49 = .ok (.isub, 1) := by decide +kernel
theorem dX12_held_50 : decode cX12_held 50 = .ok (.i2l, 1) := by decide +kernel
theorem dX12_held_51 : decode cX12_held 51 = .ok (.invokestatic 137, 3) := by decide +kernel
theorem dX12_held_54 : decode cX12_held 54 = .ok (.ifCond .ne 10, 3) := by decide +kernel
theorem dX12_held_57 : decode cX12_held 57 = .ok (.aload_n 0, 1) := by decide +kernel
theorem dX12_held_58 : decode cX12_held 58 = .ok (.bipush (-12), 2) := by decide +kernel
theorem dX12_held_60 : decode cX12_held 60 = .ok (.invokevirtual 211, 3) := by decide +kernel
theorem dX12_held_63 : decode cX12_held 63 = .ok (.ireturn, 1) := by decide +kernel
theorem dX12_held_64 : decode cX12_held 64 = .ok (.aload_n 0, 1) := by decide +kernel
theorem dX12_held_65 : decode cX12_held 65 = .ok (.getfield 96, 3) := by decide +kernel
theorem dX12_held_68 : decode cX12_held 68 = .ok (.bipush 20, 2) := by decide +kernel
theorem dX12_held_70 : decode cX12_held 70 = .ok (.iload_n 1, 1) := by decide +kernel
theorem dX12_held_71 : decode cX12_held 71 = .ok (.imul, 1) := by decide +kernel
theorem dX12_held_72 : decode cX12_held 72 = .ok (.iload_n 2, 1) := by decide +kernel
theorem dX12_held_73 : decode cX12_held 73 = .ok (.iadd, 1) := by decide +kernel
theorem dX12_held_74 : decode cX12_held 74 = .ok (.iaload, 1) := by decide +kernel
theorem dX12_held_75 : decode cX12_held 75 = .ok (.istore_n 3, 1) := by decide +kernel
theorem dX12_held_76 : decode cX12_held 76 = .ok (.iload_n 3, 1) := by decide +kernel
theorem dX12_held_77 : decode cX12_held 77 = .ok (.iconst (-1), 1) := by decide +kernel
theorem dX12_held_78 : decode cX12_held 78 = .ok (.if_icmp .ne 12, 3) := by decide +kernel
theorem dX12_held_81 : decode cX12_held 81 = .ok (.aload_n 0, 1) := by decide +kernel
theorem dX12_held_82 : decode cX12_held 82 = .ok (.bipush (-11), 2) := by decide +kernel
theorem dX12_held_84 : decode cX12_held 84 = .ok (.invokevirtual 211, 3) := by decide +kernel
theorem dX12_held_87 : decode cX12_held 87 = .ok (.goto 4, 3) := by decide +kernel
theorem dX12_held_90 : decode cX12_held 90 = .ok (.iload_n 3, 1) := by decide +kernel
theorem dX12_held_91 : decode cX12_held 91 = .ok (.ireturn, 1) := by decide +kernel
theorem dX12_areThere_0 : decode cX12_areThere 0 = .ok (.iload_n 0, 1) := by decide +kernel
theorem dX12_areThere_1 : decode cX12_areThere 1 = .ok (.ifCond .lt 22, 3) := by decide +kernel
theorem dX12_areThere_4 : decode cX12_areThere 4 = .ok (.iload_n 1, 1) := by decide +kernel
theorem dX12_areThere_5 : decode cX12_areThere 5 = .ok (.ifCond .lt 18, 3) := by decide +kernel
theorem dX12_areThere_8 : decode cX12_areThere 8 = .ok (.iload_n 0, 1) := by decide +kernel
theorem dX12_areThere_9 : decode cX12_areThere 9 = .ok (.i2l, 1) := by decide +kernel
theorem dX12_areThere_10 : decode cX12_areThere 10 = .ok (.iload_n 1, 1) := by decide +kernel
theorem dX12_areThere_11 : decode cX12_areThere 11 = .ok (.i2l, 1) := by decide +kernel
theorem dX12_areThere_12 : decode cX12_areThere 12 = .ok (.ladd, 1) := by decide +kernel
theorem dX12_areThere_13 : decode cX12_areThere 13 = .ok (.iload_n 2, 1) := by decide +kernel
theorem dX12_areThere_14 : decode cX12_areThere 14 = .ok (.i2l, 1) := by decide +kernel
theorem dX12_areThere_15 : decode cX12_areThere 15 = .ok (.lcmp, 1) := by decide +kernel
theorem dX12_areThere_16 : decode cX12_areThere 16 = .ok (.ifCond .gt 7, 3) := by decide +kernel
theorem dX12_areThere_19 : decode cX12_areThere 19 = .ok (.iconst 1, 1) := by decide +kernel
theorem dX12_areThere_20 : decode cX12_areThere 20 = .ok (.goto 4, 3) := by decide +kernel
theorem dX12_areThere_23 : decode cX12_areThere 23 = .ok (.iconst 0, 1) := by decide +kernel
theorem dX12_areThere_24 : decode cX12_areThere 24 = .ok (.ireturn, 1) := by decide +kernel
theorem dX12_slide_0 : decode cX12_slide 0 = .ok (.aload_n 0, 1) := by decide +kernel
theorem dX12_slide_1 : decode cX12_slide 1 = .ok (.invokevirtual 144, 3) := by decide +kernel
theorem dX12_slide_4 : decode cX12_slide 4 = .ok (.iload_n 1, 1) := by decide +kernel
theorem dX12_slide_5 : decode cX12_slide 5 = .ok (.i2l, 1) := by decide +kernel
theorem dX12_slide_6 : decode cX12_slide 6 = .ok (.lconst 0, 1) := by decide +kernel
theorem dX12_slide_7 : decode cX12_slide 7 = .ok (.ldc2_w 231, 3) := by decide +kernel
theorem dX12_slide_10 : decode cX12_slide 10 = .ok (.invokestatic 137, 3) := by decide +kernel
theorem dX12_slide_13 : decode cX12_slide 13 = .ok (.ifCond .ne 10, 3) := by decide +kernel
theorem dX12_slide_16 : decode cX12_slide 16 = .ok (.aload_n 0, 1) := by decide +kernel
theorem dX12_slide_17 : decode cX12_slide 17 = .ok (.bipush (-2), 2) := by decide +kernel
theorem dX12_slide_19 : decode cX12_slide 19 = .ok (.invokevirtual 130, 3) := by decide +kernel
theorem dX12_slide_22 : decode cX12_slide 22 = .ok (.ireturn, 1) := by decide +kernel
theorem dX12_slide_23 : decode cX12_slide 23 = .ok (.aload_n 0, 1) := by decide +kernel
theorem dX12_slide_24 : decode cX12_slide 24 = .ok (.getfield 87, 3) := by decide +kernel
theorem dX12_slide_27 : decode cX12_slide 27 = .ok (.iload_n 1, 1) := by decide +kernel
theorem dX12_slide_28 : decode cX12_slide 28 = .ok (.baload, 1) := by decide +kernel
theorem dX12_slide_29 : decode cX12_slide 29 = .ok (.ifCond .ne 10, 3) := by decide +kernel
theorem dX12_slide_32 : decode cX12_slide 32 = .ok (.aload_n 0, 1) := by decide +kernel
theorem dX12_slide_33 : decode cX12_slide 33 = .ok (.bipush (-11), 2) := by decide +kernel
theorem dX12_slide_35 : decode cX12_slide 35 = .ok (.invokevirtual 211, 3) := by decide +kernel
theorem dX12_slide_38 : decode cX12_slide 38 = .ok (.ireturn, 1) := by decide +kernel
theorem dX12_slide_39 : decode cX12_slide 39 = .ok (.iload_n 2, 1) := by decide +kernel
theorem dX12_slide_40 : decode cX12_slide 40 = .ok (.iload 4, 2) := by decide +kernel
theorem dX12_slide_42 : decode cX12_slide 42 = .ok (.aload_n 0, 1) := by decide +kernel
theorem dX12_slide_43 : decode cX12_slide 43 = .ok (.getfield 93, 3) := by decide +kernel
theorem dX12_slide_46 : decode cX12_slide 46 = .ok (.iload_n 1, 1) := by decide +kernel
theorem dX12_slide_47 : decode cX12_slide 47 = .ok (.iaload, 1) := by decide +kernel
theorem dX12_slide_48 : decode cX12_slide 48 = .ok (.invokestatic 321, 3) := by decide +kernel
theorem dX12_slide_51 : decode cX12_slide 51 = .ok (.ifCond .eq 18, 3) := by decide +kernel
theorem dX12_slide_54 : decode cX12_slide 54 = .ok (.iload_n 3, 1) := by decide +kernel
theorem dX12_slide_55 : decode cX12_slide 55 = .ok (.iload 4, 2) := by decide +kernel
theorem dX12_slide_57 : decode cX12_slide 57 = .ok (.aload_n 0, 1) := by decide +kernel
theorem dX12_slide_58 : decode cX12_slide 58 = .ok (.getfield 93, 3) := by decide +kernel
theorem dX12_slide_61 : decode cX12_slide 61 = .ok (.iload_n 1, 1) := by decide +kernel
theorem dX12_slide_62 : decode cX12_slide 62 = .ok (.iaload, 1) := by decide +kernel
theorem dX12_slide_63 : decode cX12_slide 63 = .ok (.invokestatic 321, 3) := by decide +kernel
theorem dX12_slide_66 : decode cX12_slide 66 = .ok (.ifCond .ne 10, 3) := by decide +kernel
theorem dX12_slide_69 : decode cX12_slide 69 = .ok (.aload_n 0, 1) := by decide +kernel
theorem dX12_slide_70 : decode cX12_slide 70 = .ok (.bipush (-12), 2) := by decide +kernel
theorem dX12_slide_72 : decode cX12_slide 72 = .ok (.invokevirtual 211, 3) := by decide +kernel
theorem dX12_slide_75 : decode cX12_slide 75 = .ok (.ireturn, 1) := by decide +kernel
theorem dX12_slide_76 : decode cX12_slide 76 = .ok (.iconst 0, 1) := by decide +kernel
theorem dX12_slide_77 : decode cX12_slide 77 = .ok (.istore 5, 2) := by decide +kernel
theorem dX12_slide_79 : decode cX12_slide 79 = .ok (.iload 5, 2) := by decide +kernel
theorem dX12_slide_81 : decode cX12_slide 81 = .ok (.iload 4, 2) := by decide +kernel
theorem dX12_slide_83 : decode cX12_slide 83 = .ok (.if_icmp .ge 30, 3) := by decide +kernel
theorem dX12_slide_86 : decode cX12_slide 86 = .ok (.aload_n 0, 1) := by decide +kernel
theorem dX12_slide_87 : decode cX12_slide 87 = .ok (.getfield 99, 3) := by decide +kernel
theorem dX12_slide_90 : decode cX12_slide 90 = .ok (.iload 5, 2) := by decide +kernel
theorem dX12_slide_92 : decode cX12_slide 92 = .ok (.aload_n 0, 1) := by decide +kernel
theorem dX12_slide_93 : decode cX12_slide 93 = .ok (.getfield 96, 3) := by decide +kernel
theorem dX12_slide_96 : decode cX12_slide 96 = .ok (.bipush 20, 2) := by decide +kernel
theorem dX12_slide_98 : decode cX12_slide 98 = .ok (.iload_n 1, 1) := by decide +kernel
theorem dX12_slide_99 : decode cX12_slide 99 = .ok (.imul, 1) := by decide +kernel
theorem dX12_slide_100 : decode cX12_slide 100 = .ok (.iload_n 2, 1) := by decide +kernel
theorem dX12_slide_101 : decode cX12_slide 101 = .ok (.iadd, 1) := by decide +kernel
theorem dX12_slide_102 : decode cX12_slide 102 = .ok (.iload 5, 2) := by decide +kernel
theorem dX12_slide_104 : decode cX12_slide 104 = .ok (.iadd, 1) := by decide +kernel
theorem dX12_slide_105 : decode cX12_slide 105 = .ok (.iaload, 1) := by decide +kernel
theorem dX12_slide_106 : decode cX12_slide 106 = .ok (.iastore, 1) := by decide +kernel
theorem dX12_slide_107 : decode cX12_slide 107 = .ok (.iinc 5 1, 3) := by decide +kernel
theorem dX12_slide_110 : decode cX12_slide 110 = .ok (.goto (-31), 3) := by decide +kernel
theorem dX12_slide_113 : decode cX12_slide 113 = .ok (.iconst 0, 1) := by decide +kernel
theorem dX12_slide_114 : decode cX12_slide 114 = .ok (.istore 5, 2) := by decide +kernel
theorem dX12_slide_116 : decode cX12_slide 116 = .ok (.iload 5, 2) := by decide +kernel
theorem dX12_slide_118 : decode cX12_slide 118 = .ok (.iload 4, 2) := by decide +kernel
theorem dX12_slide_120 : decode cX12_slide 120 = .ok (.if_icmp .ge 30, 3) := by decide +kernel
theorem dX12_slide_123 : decode cX12_slide 123 = .ok (.aload_n 0, 1) := by decide +kernel
theorem dX12_slide_124 : decode cX12_slide 124 = .ok (.getfield 96, 3) := by decide +kernel
theorem dX12_slide_127 : decode cX12_slide 127 = .ok (.bipush 20, 2) := by decide +kernel
theorem dX12_slide_129 : decode cX12_slide 129 = .ok (.iload_n 1, 1) := by decide +kernel
theorem dX12_slide_130 : decode cX12_slide 130 = .ok (.imul, 1) := by decide +kernel
theorem dX12_slide_131 : decode cX12_slide 131 = .ok (.iload_n 3, 1) := by decide +kernel
theorem dX12_slide_132 : decode cX12_slide 132 = .ok (.iadd, 1) := by decide +kernel
theorem dX12_slide_133 : decode cX12_slide 133 = .ok (.iload 5, 2) := by decide +kernel
theorem dX12_slide_135 : decode cX12_slide 135 = .ok (.iadd, 1) := by decide +kernel
theorem dX12_slide_136 : decode cX12_slide 136 = .ok (.aload_n 0, 1) := by decide +kernel
theorem dX12_slide_137 : decode cX12_slide 137 = .ok (.getfield 99, 3) := by decide +kernel
theorem dX12_slide_140 : decode cX12_slide 140 = .ok (.iload 5, 2) := by decide +kernel
theorem dX12_slide_142 : decode cX12_slide 142 = .ok (.iaload, 1) := by decide +kernel
theorem dX12_slide_143 : decode cX12_slide 143 = .ok (.iastore, 1) := by decide +kernel
theorem dX12_slide_144 : decode cX12_slide 144 = .ok (.iinc 5 1, 3) := by decide +kernel
theorem dX12_slide_147 : decode cX12_slide 147 = .ok (.goto (-31), 3) := by decide +kernel
theorem dX12_slide_150 : decode cX12_slide 150 = .ok (.iload 4, 2) := by decide +kernel
theorem dX12_slide_152 : decode cX12_slide 152 = .ok (.ireturn, 1) := by decide +kernel
theorem dX12_shelf_0 : decode cX12_shelf 0 = .ok (.aload_n 0, 1) := by decide +kernel
theorem dX12_shelf_1 : decode cX12_shelf 1 = .ok (.invokevirtual 144, 3) := by decide +kernel
theorem dX12_shelf_4 : decode cX12_shelf 4 = .ok (.iload_n 1, 1) := by decide +kernel
theorem dX12_shelf_5 : decode cX12_shelf 5 = .ok (.i2l, 1) := by decide +kernel
theorem dX12_shelf_6 : decode cX12_shelf 6 = .ok (.lconst 0, 1) := by decide +kernel
theorem dX12_shelf_7 : decode cX12_shelf 7 = .ok (.ldc2_w 231, 3) := by decide +kernel
theorem dX12_shelf_10 : decode cX12_shelf 10 = .ok (.invokestatic 137, 3) := by decide +kernel
theorem dX12_shelf_13 : decode cX12_shelf 13 = .ok (.ifCond .eq 21, 3) := by decide +kernel
theorem dX12_shelf_16 : decode cX12_shelf 16 = .ok (.iload_n 2, 1) := by decide +kernel
theorem dX12_shelf_17 : decode cX12_shelf 17 = .ok (.i2l, 1) := by decide +kernel
theorem dX12_shelf_18 : decode cX12_shelf 18 = .ok (.lconst 0, 1) := by decide +kernel
theorem dX12_shelf_19 : decode cX12_shelf 19 = .ok (.ldc2_w 231, 3) := by decide +kernel
theorem dX12_shelf_22 : decode cX12_shelf 22 = .ok (.invokestatic 137, 3) := by decide +kernel
theorem dX12_shelf_25 : decode cX12_shelf 25 = .ok (.ifCond .eq 9, 3) := by decide +kernel
theorem dX12_shelf_28 : decode cX12_shelf 28 = .ok (.iload_n 3, 1) := by decide +kernel
theorem dX12_shelf_29 : decode cX12_shelf 29 = .ok (.bipush 60, 2) := by decide +kernel
theorem dX12_shelf_31 : decode cX12_shelf 31 = .ok (.if_icmp .le 10, 3) := by decide +kernel
theorem dX12_shelf_34 : decode cX12_shelf 34 = .ok (.aload_n 0, 1) := by decide +kernel
theorem dX12_shelf_35 : decode cX12_shelf 35 = .ok (.bipush (-2), 2) := by decide +kernel
theorem dX12_shelf_37 : decode cX12_shelf 37 = .ok (.invokevirtual 130, 3) := by decide +kernel
theorem dX12_shelf_40 : decode cX12_shelf 40 = .ok (.ireturn, 1) := by decide +kernel
theorem dX12_shelf_41 : decode cX12_shelf 41 = .ok (.iload_n 3, 1) := by decide +kernel
theorem dX12_shelf_42 : decode cX12_shelf 42 = .ok (.ifCond .ge 10, 3) := by decide +kernel
theorem dX12_shelf_45 : decode cX12_shelf 45 = .ok (.aload_n 0, 1) := by decide +kernel
theorem dX12_shelf_46 : decode cX12_shelf 46 = .ok (.bipush (-15), 2) := by decide +kernel
theorem dX12_shelf_48 : decode cX12_shelf 48 = .ok (.invokevirtual 211, 3) := by decide +kernel
theorem dX12_shelf_51 : decode cX12_shelf 51 = .ok (.ireturn, 1) := by decide +kernel
theorem dX12_shelf_52 : decode cX12_shelf 52 = .ok (.aload_n 0, 1) := by decide +kernel
theorem dX12_shelf_53 : decode cX12_shelf 53 = .ok (.getfield 102, 3) := by decide +kernel
theorem dX12_shelf_56 : decode cX12_shelf 56 = .ok (.iload_n 1, 1) := by decide +kernel
theorem dX12_shelf_57 : decode cX12_shelf 57 = .ok (.iconst 1, 1) := by decide +kernel
theorem dX12_shelf_58 : decode cX12_shelf 58 = .ok (.bastore, 1) := by decide +kernel
theorem dX12_shelf_59 : decode cX12_shelf 59 = .ok (.aload_n 0, 1) := by decide +kernel
theorem dX12_shelf_60 : decode cX12_shelf 60 = .ok (.getfield 105, 3) := by decide +kernel
theorem dX12_shelf_63 : decode cX12_shelf 63 = .ok (.iload_n 1, 1) := by decide +kernel
theorem dX12_shelf_64 : decode cX12_shelf 64 = .ok (.iload_n 2, 1) := by decide +kernel
theorem dX12_shelf_65 : decode cX12_shelf 65 = .ok (.iastore, 1) := by decide +kernel
theorem dX12_shelf_66 : decode cX12_shelf 66 = .ok (.aload_n 0, 1) := by decide +kernel
theorem dX12_shelf_67 : decode cX12_shelf 67 = .ok (.getfield 108, 3) := by decide +kernel
theorem dX12_shelf_70 : decode cX12_shelf 70 = .ok (.iload_n 1, 1) := by decide +kernel
theorem dX12_shelf_71 : decode cX12_shelf 71 = .ok (.iload_n 3, 1) := by decide +kernel
theorem dX12_shelf_72 : decode cX12_shelf 72 = .ok (.iastore, 1) := by decide +kernel
theorem dX12_shelf_73 : decode cX12_shelf 73 = .ok (.iconst 0, 1) := by decide +kernel
theorem dX12_shelf_74 : decode cX12_shelf 74 = .ok (.istore 4, 2) := by decide +kernel
theorem dX12_shelf_76 : decode cX12_shelf 76 = .ok (.iload 4, 2) := by decide +kernel
theorem dX12_shelf_78 : decode cX12_shelf 78 = .ok (.bipush 60, 2) := by decide +kernel
theorem dX12_shelf_80 : decode cX12_shelf 80 = .ok (.if_icmp .ge 22, 3) := by decide +kernel
theorem dX12_shelf_83 : decode cX12_shelf 83 = .ok (.aload_n 0, 1) := by decide +kernel
theorem dX12_shelf_84 : decode cX12_shelf 84 = .ok (.getfield 111, 3) := by decide +kernel
theorem dX12_shelf_87 : decode cX12_shelf 87 = .ok (.bipush 60, 2) := by decide +kernel
theorem dX12_shelf_89 : decode cX12_shelf 89 = .ok (.iload_n 1, 1) := by decide +kernel
theorem dX12_shelf_90 : decode cX12_shelf 90 = .ok (.imul, 1) := by decide +kernel
theorem dX12_shelf_91 : decode cX12_shelf 91 = .ok (.iload 4, 2) := by decide +kernel
theorem dX12_shelf_93 : decode cX12_shelf 93 = .ok (.iadd, 1) := by decide +kernel
theorem dX12_shelf_94 : decode cX12_shelf 94 = .ok (.iconst 0, 1) := by decide +kernel
theorem dX12_shelf_95 : decode cX12_shelf 95 = .ok (.iastore, 1) := by decide +kernel
theorem dX12_shelf_96 : decode cX12_shelf 96 = .ok (.iinc 4 1, 3) := by decide +kernel
theorem dX12_shelf_99 : decode cX12_shelf 99 = .ok (.goto (-23), 3) := by decide +kernel
theorem dX12_shelf_102 : decode cX12_shelf 102 = .ok (.iconst 1, 1) := by decide +kernel
theorem dX12_shelf_103 : decode cX12_shelf 103 = .ok (.ireturn, 1) := by decide +kernel
theorem dX12_lays_0 : decode cX12_lays 0 = .ok (.iload_n 1, 1) := by decide +kernel
theorem dX12_lays_1 : decode cX12_lays 1 = .ok (.iconst (-1), 1) := by decide +kernel
theorem dX12_lays_2 : decode cX12_lays 2 = .ok (.if_icmp .ne 15, 3) := by decide +kernel
theorem dX12_lays_5 : decode cX12_lays 5 = .ok (.aload_n 0, 1) := by decide +kernel
theorem dX12_lays_6 : decode cX12_lays 6 = .ok (.aload_n 0, 1) := by decide +kernel
theorem dX12_lays_7 : decode cX12_lays 7 = .ok (.bipush (-11), 2) := by decide +kernel
theorem dX12_lays_9 : decode cX12_lays 9 = .ok (.invokevirtual 211, 3) := by decide +kernel
theorem dX12_lays_12 : decode cX12_lays 12 = .ok (.putfield 325, 3) := by decide +kernel
theorem dX12_lays_15 : decode cX12_lays 15 = .ok (.iconst 0, 1) := by decide +kernel
theorem dX12_lays_16 : decode cX12_lays 16 = .ok (.ireturn, 1) := by decide +kernel
theorem dX12_lays_17 : decode cX12_lays 17 = .ok (.aload_n 0, 1) := by decide +kernel
theorem dX12_lays_18 : decode cX12_lays 18 = .ok (.iload_n 1, 1) := by decide +kernel
theorem dX12_lays_19 : decode cX12_lays 19 = .ok (.invokevirtual 214, 3) := by decide +kernel
theorem dX12_lays_22 : decode cX12_lays 22 = .ok (.ifCond .ne 15, 3) := by decide +kernel
theorem dX12_lays_25 : decode cX12_lays 25 = .ok (.aload_n 0, 1) := by decide +kernel
theorem dX12_lays_26 : decode cX12_lays 26 = .ok (.aload_n 0, 1) := by decide +kernel
theorem dX12_lays_27 : decode cX12_lays 27 = .ok (.bipush (-13), 2) := by decide +kernel
theorem dX12_lays_29 : decode cX12_lays 29 = .ok (.invokevirtual 211, 3) := by decide +kernel
theorem dX12_lays_32 : decode cX12_lays 32 = .ok (.putfield 325, 3) := by decide +kernel
theorem dX12_lays_35 : decode cX12_lays 35 = .ok (.iconst 0, 1) := by decide +kernel
theorem dX12_lays_36 : decode cX12_lays 36 = .ok (.ireturn, 1) := by decide +kernel
theorem dX12_lays_37 : decode cX12_lays 37 = .ok (.aload_n 0, 1) := by decide +kernel
theorem dX12_lays_38 : decode cX12_lays 38 = .ok (.getfield 102, 3) := by decide +kernel
theorem dX12_lays_41 : decode cX12_lays 41 = .ok (.iload_n 2, 1) := by decide +kernel
theorem dX12_lays_42 : decode cX12_lays 42 = .ok (.baload, 1) := by decide +kernel
theorem dX12_lays_43 : decode cX12_lays 43 = .ok (.ifCond .ne 15, 3) := by decide +kernel
theorem dX12_lays_46 : decode cX12_lays 46 = .ok (.aload_n 0, 1) := by decide +kernel
theorem dX12_lays_47 : decode cX12_lays 47 = .ok (.aload_n 0, 1) := by decide +kernel
theorem dX12_lays_48 : decode cX12_lays 48 = .ok (.bipush (-11), 2) := by decide +kernel
theorem dX12_lays_50 : decode cX12_lays 50 = .ok (.invokevirtual 211, 3) := by decide +kernel
theorem dX12_lays_53 : decode cX12_lays 53 = .ok (.putfield 325, 3) := by decide +kernel
theorem dX12_lays_56 : decode cX12_lays 56 = .ok (.iconst 0, 1) := by decide +kernel
theorem dX12_lays_57 : decode cX12_lays 57 = .ok (.ireturn, 1) := by decide +kernel
theorem dX12_lays_58 : decode cX12_lays 58 = .ok (.lload_n 3, 1) := by decide +kernel
theorem dX12_lays_59 : decode cX12_lays 59 = .ok (.lconst 0, 1) := by decide +kernel
theorem dX12_lays_60 : decode cX12_lays 60 = .ok (.aload_n 0, 1) := by decide +kernel
theorem dX12_lays_61 : decode cX12_lays 61 = .ok (.getfield 108, 3) := by decide +kernel
theorem dX12_lays_64 : decode cX12_lays 64 = .ok (.iload_n 2, 1) := by decide +kernel
theorem dX12_lays_65 : decode cX12_lays 65 = .ok (.iaload, 1) := by decide +kernel
theorem dX12_lays_66 : decode cX12_lays 66 = .ok (.iconst 1, 1) := by decide +kernel
theorem dX12_lays_67 : decode cX12_lays 67 = .ok (.isub, 1) := by decide +kernel
theorem dX12_lays_68 : decode cX12_lays 68 = .ok (.i2l, 1) := by decide +kernel
theorem dX12_lays_69 : decode cX12_lays 69 = .ok (.invokestatic 137, 3) := by decide +kernel
theorem dX12_lays_72 : decode cX12_lays 72 = .ok (.ifCond .ne 15, 3) := by decide +kernel
theorem dX12_lays_75 : decode cX12_lays 75 = .ok (.aload_n 0, 1) := by decide +kernel
theorem dX12_lays_76 : decode cX12_lays 76 = .ok (.aload_n 0, 1) := by decide +kernel
theorem dX12_lays_77 : decode cX12_lays 77 = .ok (.bipush (-12), 2) := by decide +kernel
theorem dX12_lays_79 : decode cX12_lays 79 = .ok (.invokevirtual 211, 3) := by decide +kernel
theorem dX12_lays_82 : decode cX12_lays 82 = .ok (.putfield 325, 3) := by decide +kernel
theorem dX12_lays_85 : decode cX12_lays 85 = .ok (.iconst 0, 1) := by decide +kernel
theorem dX12_lays_86 : decode cX12_lays 86 = .ok (.ireturn, 1) := by decide +kernel
theorem dX12_lays_87 : decode cX12_lays 87 = .ok (.aload_n 0, 1) := by decide +kernel
theorem dX12_lays_88 : decode cX12_lays 88 = .ok (.getfield 111, 3) := by decide +kernel
theorem dX12_lays_91 : decode cX12_lays 91 = .ok (.bipush 60, 2) := by decide +kernel
theorem dX12_lays_93 : decode cX12_lays 93 = .ok (.iload_n 2, 1) := by decide +kernel
theorem dX12_lays_94 : decode cX12_lays 94 = .ok (.imul, 1) := by decide +kernel
theorem dX12_lays_95 : decode cX12_lays 95 = .ok (.lload_n 3, 1) := by decide +kernel
theorem dX12_lays_96 : decode cX12_lays 96 = .ok (.l2i, 1) := by decide +kernel
theorem dX12_lays_97 : decode cX12_lays 97 = .ok (.iadd, 1) := by decide +kernel
theorem dX12_lays_98 : decode cX12_lays 98 = .ok (.aload_n 0, 1) := by decide +kernel
theorem dX12_lays_99 : decode cX12_lays 99 = .ok (.getfield 30, 3) := by decide +kernel
theorem dX12_lays_102 : decode cX12_lays 102 = .ok (.bipush 6, 2) := by decide +kernel
theorem dX12_lays_104 : decode cX12_lays 104 = .ok (.iload_n 1, 1) := by decide +kernel
theorem dX12_lays_105 : decode cX12_lays 105 = .ok (.imul, 1) := by decide +kernel
theorem dX12_lays_106 : decode cX12_lays 106 = .ok (.iaload, 1) := by decide +kernel
theorem dX12_lays_107 : decode cX12_lays 107 = .ok (.iastore, 1) := by decide +kernel
theorem dX12_lays_108 : decode cX12_lays 108 = .ok (.iconst 1, 1) := by decide +kernel
theorem dX12_lays_109 : decode cX12_lays 109 = .ok (.ireturn, 1) := by decide +kernel
theorem dX12_lay_0 : decode cX12_lay 0 = .ok (.aload_n 0, 1) := by decide +kernel
theorem dX12_lay_1 : decode cX12_lay 1 = .ok (.invokevirtual 144, 3) := by decide +kernel
theorem dX12_lay_4 : decode cX12_lay 4 = .ok (.iload_n 2, 1) := by decide +kernel
theorem dX12_lay_5 : decode cX12_lay 5 = .ok (.ifCond .eq 18, 3) := by decide +kernel
theorem dX12_lay_8 : decode cX12_lay 8 = .ok (.iload_n 1, 1) := by decide +kernel
theorem dX12_lay_9 : decode cX12_lay 9 = .ok (.i2l, 1) := by decide +kernel
theorem dX12_lay_10 : decode cX12_lay 10 = .ok (.lconst 0, 1) := by decide +kernel
theorem dX12_lay_11 : decode cX12_lay 11 = .ok (.ldc2_w 231, 3) := by decide +kernel
theorem dX12_lay_14 : decode cX12_lay 14 = .ok (.invokestatic 137, 3) := by decide +kernel
theorem dX12_lay_17 : decode cX12_lay 17 = .ok (.ifCond .eq 26, 3) := by decide +kernel
theorem dX12_lay_20 : decode cX12_lay 20 = .ok (.goto 11, 3) := by decide +kernel
theorem dX12_lay_23 : decode cX12_lay 23 = .ok (.aload_n 0, 1) := by decide +kernel
theorem dX12_lay_24 : decode cX12_lay 24 = .ok (.iload_n 1, 1) := by decide +kernel
theorem dX12_lay_25 : decode cX12_lay 25 = .ok (.invokevirtual 184, 3) := by decide +kernel
theorem dX12_lay_28 : decode cX12_lay 28 = .ok (.ifCond .eq 15, 3) := by decide +kernel
theorem dX12_lay_31 : decode cX12_lay 31 = .ok (.iload_n 3, 1) := by decide +kernel
theorem dX12_lay_32 : decode cX12_lay 32 = .ok (.i2l, 1) := by decide +kernel
theorem dX12_lay_33 : decode cX12_lay 33 = .ok (.lconst 0, 1) := by decide +kernel
theorem dX12_lay_34 : decode cX12_lay 34 = .ok (.ldc2_w 231, 3) := by decide +kernel
theorem dX12_lay_37 : decode cX12_lay 37 = .ok (.invokestatic 137, 3) := by decide +kernel
theorem dX12_lay_40 : decode cX12_lay 40 = .ok (.ifCond .ne 10, 3) := by decide +kernel
theorem dX12_lay_43 : decode cX12_lay 43 = .ok (.aload_n 0, 1) := by decide +kernel
theorem dX12_lay_44 : decode cX12_lay 44 = .ok (.bipush (-2), 2) := by decide +kernel
theorem dX12_lay_46 : decode cX12_lay 46 = .ok (.invokevirtual 130, 3) := by decide +kernel
theorem dX12_lay_49 : decode cX12_lay 49 = .ok (.ireturn, 1) := by decide +kernel
theorem dX12_lay_50 : decode cX12_lay 50 = .ok (.iload_n 2, 1) := by decide +kernel
theorem dX12_lay_51 : decode cX12_lay 51 = .ok (.ifCond .eq 24, 3) := by decide +kernel
theorem dX12_lay_54 : decode cX12_lay 54 = .ok (.aload_n 0, 1) := by decide +kernel
theorem dX12_lay_55 : decode cX12_lay 55 = .ok (.getfield 87, 3) := by decide +kernel
theorem dX12_lay_58 : decode cX12_lay 58 = .ok (.iload_n 1, 1) := by decide +kernel
theorem dX12_lay_59 : decode cX12_lay 59 = .ok (.baload, 1) := by decide +kernel
theorem dX12_lay_60 : decode cX12_lay 60 = .ok (.ifCond .ne 15, 3) := by decide +kernel
theorem dX12_lay_63 : decode cX12_lay 63 = .ok (.aload_n 0, 1) := by decide +kernel
theorem dX12_lay_64 : decode cX12_lay 64 = .ok (.aload_n 0, 1) := by decide +kernel
theorem dX12_lay_65 : decode cX12_lay 65 = .ok (.bipush (-11), 2) := by decide +kernel
theorem dX12_lay_67 : decode cX12_lay 67 = .ok (.invokevirtual 211, 3) := by decide +kernel
theorem dX12_lay_70 : decode cX12_lay 70 = .ok (.putfield 325, 3) := by decide +kernel
theorem dX12_lay_73 : decode cX12_lay 73 = .ok (.iconst 0, 1) := by decide +kernel
theorem dX12_lay_74 : decode cX12_lay 74 = .ok (.ireturn, 1) := by decide +kernel
theorem dX12_lay_75 : decode cX12_lay 75 = .ok (.iload_n 2, 1) := by decide +kernel
theorem dX12_lay_76 : decode cX12_lay 76 = .ok (.ifCond .eq 12, 3) := by decide +kernel
theorem dX12_lay_79 : decode cX12_lay 79 = .ok (.aload_n 0, 1) := by decide +kernel
theorem dX12_lay_80 : decode cX12_lay 80 = .ok (.getfield 93, 3) := by decide +kernel
theorem dX12_lay_83 : decode cX12_lay 83 = .ok (.iload_n 1, 1) := by decide +kernel
theorem dX12_lay_84 : decode cX12_lay 84 = .ok (.iaload, 1) := by decide +kernel
theorem dX12_lay_85 : decode cX12_lay 85 = .ok (.goto 9, 3) := by decide +kernel
theorem dX12_lay_88 : decode cX12_lay 88 = .ok (.aload_n 0, 1) := by decide +kernel
theorem dX12_lay_89 : decode cX12_lay 89 = .ok (.getfield 45, 3) := by decide +kernel
theorem dX12_lay_92 : decode cX12_lay 92 = .ok (.iload_n 1, 1) := by decide +kernel
theorem dX12_lay_93 : decode cX12_lay 93 = .ok (.iaload, 1) := by decide +kernel
theorem dX12_lay_94 : decode cX12_lay 94 = .ok (.istore 5, 2) := by decide +kernel
theorem dX12_lay_96 : decode cX12_lay 96 = .ok (.iconst 0, 1) := by decide +kernel
theorem dX12_lay_97 : decode cX12_lay 97 = .ok (.istore 6, 2) := by decide +kernel
theorem dX12_lay_99 : decode cX12_lay 99 = .ok (.iload 6, 2) := by decide +kernel
theorem dX12_lay_101 : decode cX12_lay 101 = .ok (.iload 5, 2) := by decide +kernel
theorem dX12_lay_103 : decode cX12_lay 103 = .ok (.if_icmp .ge 58, 3) := by decide +kernel
theorem dX12_lay_106 : decode cX12_lay 106 = .ok (.aload_n 0, 1) := by decide +kernel
theorem dX12_lay_107 : decode cX12_lay 107 = .ok (.iload_n 2, 1) := by decide +kernel
theorem dX12_lay_108 : decode cX12_lay 108 = .ok (.ifCond .eq 18, 3) := by decide +kernel
theorem dX12_lay_111 : decode cX12_lay 111 = .ok (.aload_n 0, 1) := by decide +kernel
theorem dX12_lay_112 : decode cX12_lay 112 = .ok (.getfield 96, 3) := by decide +kernel
theorem dX12_lay_115 : decode cX12_lay 115 = .ok (.bipush 20, 2) := by decide +kernel
theorem dX12_lay_117 : decode cX12_lay 117 = .ok (.iload_n 1, 1) := by decide +kernel
theorem dX12_lay_118 : decode cX12_lay 118 = .ok (.imul, 1) := by decide +kernel
theorem dX12_lay_119 : decode cX12_lay 119 = .ok (.iload 6, 2) := by decide +kernel
theorem dX12_lay_121 : decode cX12_lay 121 = .ok (.iadd, 1) := by decide +kernel
theorem dX12_lay_122 : decode cX12_lay 122 = .ok (.iaload, 1) := by decide +kernel
theorem dX12_lay_123 : decode cX12_lay 123 = .ok (.goto 15, 3) := by decide +kernel
theorem dX12_lay_126 : decode cX12_lay 126 = .ok (.aload_n 0, 1) := by decide +kernel
theorem dX12_lay_127 : decode cX12_lay 127 = .ok (.getfield 42, 3) := by decide +kernel
theorem dX12_lay_130 : decode cX12_lay 130 = .ok (.bipush 40, 2) := by decide +kernel
theorem dX12_lay_132 : decode cX12_lay 132 = .ok (.iload_n 1, 1) := by decide +kernel
theorem dX12_lay_133 : decode cX12_lay 133 = .ok (.imul, 1) := by decide +kernel
theorem dX12_lay_134 : decode cX12_lay 134 = .ok (.iload 6, 2) := by decide +kernel
theorem dX12_lay_136 : decode cX12_lay 136 = .ok (.iadd, 1) := by decide +kernel
theorem dX12_lay_137 : decode cX12_lay 137 = .ok (.iaload, 1) := by decide +kernel
theorem dX12_lay_138 : decode cX12_lay 138 = .ok (.iload_n 3, 1) := by decide +kernel
theorem dX12_lay_139 : decode cX12_lay 139 = .ok (.iload 4, 2) := by decide +kernel
theorem dX12_lay_141 : decode cX12_lay 141 = .ok (.i2l, 1) := by decide +kernel
theorem dX12_lay_142 : decode cX12_lay 142 = .ok (.iload 6, 2) := by decide +kernel
theorem dX12_lay_144 : decode cX12_lay 144 = .ok (.i2l, 1) := by decide +kernel
theorem dX12_lay_145 : decode cX12_lay 145 = .ok (.ladd, 1) := by decide +kernel
theorem dX12_lay_146 : decode cX12_lay 146 = .ok (.invokevirtual 328, 3) := by decide +kernel
theorem dX12_lay_149 : decode cX12_lay 149 = .ok (.ifCond .ne 6, 3) := by decide +kernel
theorem dX12_lay_152 : decode cX12_lay 152 = .ok (.iload 6, 2) := by decide +kernel
theorem dX12_lay_154 : decode cX12_lay 154 = .ok (.ireturn, 1) := by decide +kernel
theorem dX12_lay_155 : decode cX12_lay 155 = .ok (.iinc 6 1, 3) := by decide +kernel
theorem dX12_lay_158 : decode cX12_lay 158 = .ok (.goto (-59), 3) := by decide +kernel
theorem dX12_lay_161 : decode cX12_lay 161 = .ok (.iload 5, 2) := by decide +kernel
theorem dX12_lay_163 : decode cX12_lay 163 = .ok (.ireturn, 1) := by decide +kernel
theorem dX12_item_0 : decode cX12_item 0 = .ok (.aload_n 0, 1) := by decide +kernel
theorem dX12_item_1 : decode cX12_item 1 = .ok (.invokevirtual 144, 3) := by decide +kernel
theorem dX12_item_4 : decode cX12_item 4 = .ok (.iload_n 1, 1) := by decide +kernel
theorem dX12_item_5 : decode cX12_item 5 = .ok (.i2l, 1) := by decide +kernel
theorem dX12_item_6 : decode cX12_item 6 = .ok (.lconst 0, 1) := by decide +kernel
theorem dX12_item_7 : decode cX12_item 7 = .ok (.ldc2_w 231, 3) := by decide +kernel
theorem dX12_item_10 : decode cX12_item 10 = .ok (.invokestatic 137, 3) := by decide +kernel
theorem dX12_item_13 : decode cX12_item 13 = .ok (.ifCond .ne 13, 3) := by decide +kernel
theorem dX12_item_16 : decode cX12_item 16 = .ok (.aload_n 0, 1) := by decide +kernel
theorem dX12_item_17 : decode cX12_item 17 = .ok (.bipush (-2), 2) := by decide +kernel
theorem dX12_item_19 : decode cX12_item 19 = .ok (.putfield 127, 3) := by decide +kernel
theorem dX12_item_22 : decode cX12_item 22 = .ok (.sipush (-2000), 3) := by decide +kernel
theorem dX12_item_25 : decode cX12_item 25 = .ok (.ireturn, 1) := by decide +kernel
theorem dX12_item_26 : decode cX12_item 26 = .ok (.aload_n 0, 1) := by decide +kernel
theorem dX12_item_27 : decode cX12_item 27 = .ok (.getfield 102, 3) := by decide +kernel
theorem dX12_item_30 : decode cX12_item 30 = .ok (.iload_n 1, 1) := by decide +kernel
theorem dX12_item_31 : decode cX12_item 31 = .ok (.baload, 1) := by decide +kernel
theorem dX12_item_32 : decode cX12_item 32 = .ok (.ifCond .ne 17, 3) := by decide +kernel
theorem dX12_item_35 : decode cX12_item 35 = .ok (.aload_n 0, 1) := by decide +kernel
theorem dX12_item_36 : decode cX12_item 36 = .ok (.aload_n 0, 1) := by decide +kernel
theorem dX12_item_37 : decode cX12_item 37 = .ok (.bipush (-11), 2) := by decide +kernel
theorem dX12_item_39 : decode cX12_item 39 = .ok (.invokevirtual 211, 3) := by decide +kernel
theorem dX12_item_42 : decode cX12_item 42 = .ok (.putfield 325, 3) := by decide +kernel
theorem dX12_item_45 : decode cX12_item 45 = .ok (.sipush (-2001), 3) := by decide +kernel
theorem dX12_item_48 : decode cX12_item 48 = .ok (.ireturn, 1) := by decide +kernel
theorem dX12_item_49 : decode cX12_item 49 = .ok (.iload_n 2, 1) := by decide +kernel
theorem dX12_item_50 : decode cX12_item 50 = .ok (.i2l, 1) := by decide +kernel
theorem dX12_item_51 : decode cX12_item 51 = .ok (.lconst 0, 1) := by decide +kernel
theorem dX12_item_52 : decode cX12_item 52 = .ok (.aload_n 0, 1) := by decide +kernel
theorem dX12_item_53 : decode cX12_item 53 = .ok (.getfield 108, 3) := by decide +kernel
theorem dX12_item_56 : decode cX12_item 56 = .ok (.iload_n 1, 1) := by decide +kernel
theorem dX12_item_57 : decode cX12_item 57 = .ok (.iaload, 1) := by decide +kernel
theorem dX12_item_58 : decode cX12_item 58 = .ok (.iconst 1, 1) := by decide +kernel
theorem dX12_item_59 : decode cX12_item 59 = .ok (.isub, 1) := by decide +kernel
theorem dX12_item_60 : decode cX12_item 60 = .ok (.i2l, 1) := by decide +kernel
theorem dX12_item_61 : decode cX12_item 61 = .ok (.invokestatic 137, 3) := by decide +kernel
theorem dX12_item_64 : decode cX12_item 64 = .ok (.ifCond .ne 17, 3) := by decide +kernel
theorem dX12_item_67 : decode cX12_item 67 = .ok (.aload_n 0, 1) := by decide +kernel
theorem dX12_item_68 : decode cX12_item 68 = .ok (.aload_n 0, 1) := by decide +kernel
theorem dX12_item_69 : decode cX12_item 69 = .ok (.bipush (-12), 2) := by decide +kernel
theorem dX12_item_71 : decode cX12_item 71 = .ok (.invokevirtual 211, 3) := by decide +kernel
theorem dX12_item_74 : decode cX12_item 74 = .ok (.putfield 325, 3) := by decide +kernel
theorem dX12_item_77 : decode cX12_item 77 = .ok (.sipush (-2002), 3) := by decide +kernel
theorem dX12_item_80 : decode cX12_item 80 = .ok (.ireturn, 1) := by decide +kernel
theorem dX12_item_81 : decode cX12_item 81 = .ok (.aload_n 0, 1) := by decide +kernel
theorem dX12_item_82 : decode cX12_item 82 = .ok (.getfield 111, 3) := by decide +kernel
theorem dX12_item_85 : decode cX12_item 85 = .ok (.bipush 60, 2) := by decide +kernel
theorem dX12_item_87 : decode cX12_item 87 = .ok (.iload_n 1, 1) := by decide +kernel
theorem dX12_item_88 : decode cX12_item 88 = .ok (.imul, 1) := by decide +kernel
theorem dX12_item_89 : decode cX12_item 89 = .ok (.iload_n 2, 1) := by decide +kernel
theorem dX12_item_90 : decode cX12_item 90 = .ok (.iadd, 1) := by decide +kernel
theorem dX12_item_91 : decode cX12_item 91 = .ok (.iaload, 1) := by decide +kernel
theorem dX12_item_92 : decode cX12_item 92 = .ok (.ireturn, 1) := by decide +kernel
theorem dX12_lift_0 : decode cX12_lift 0 = .ok (.aload_n 0, 1) := by decide +kernel
theorem dX12_lift_1 : decode cX12_lift 1 = .ok (.invokevirtual 144, 3) := by decide +kernel
theorem dX12_lift_4 : decode cX12_lift 4 = .ok (.iload_n 1, 1) := by decide +kernel
theorem dX12_lift_5 : decode cX12_lift 5 = .ok (.i2l, 1) := by decide +kernel
theorem dX12_lift_6 : decode cX12_lift 6 = .ok (.lconst 0, 1) := by decide +kernel
theorem dX12_lift_7 : decode cX12_lift 7 = .ok (.ldc2_w 231, 3) := by decide +kernel
theorem dX12_lift_10 : decode cX12_lift 10 = .ok (.invokestatic 137, 3) := by decide +kernel
theorem dX12_lift_13 : decode cX12_lift 13 = .ok (.ifCond .ne 10, 3) := by decide +kernel
theorem dX12_lift_16 : decode cX12_lift 16 = .ok (.aload_n 0, 1) := by decide +kernel
theorem dX12_lift_17 : decode cX12_lift 17 = .ok (.bipush (-2), 2) := by decide +kernel
theorem dX12_lift_19 : decode cX12_lift 19 = .ok (.invokevirtual 130, 3) := by decide +kernel
theorem dX12_lift_22 : decode cX12_lift 22 = .ok (.ireturn, 1) := by decide +kernel
theorem dX12_lift_23 : decode cX12_lift 23 = .ok (.aload_n 0, 1) := by decide +kernel
theorem dX12_lift_24 : decode cX12_lift 24 = .ok (.getfield 102, 3) := by decide +kernel
theorem dX12_lift_27 : decode cX12_lift 27 = .ok (.iload_n 1, 1) := by decide +kernel
theorem dX12_lift_28 : decode cX12_lift 28 = .ok (.baload, 1) := by decide +kernel
theorem dX12_lift_29 : decode cX12_lift 29 = .ok (.ifCond .ne 10, 3) := by decide +kernel
theorem dX12_lift_32 : decode cX12_lift 32 = .ok (.aload_n 0, 1) := by decide +kernel
theorem dX12_lift_33 : decode cX12_lift 33 = .ok (.bipush (-11), 2) := by decide +kernel
theorem dX12_lift_35 : decode cX12_lift 35 = .ok (.invokevirtual 211, 3) := by decide +kernel
theorem dX12_lift_38 : decode cX12_lift 38 = .ok (.ireturn, 1) := by decide +kernel
theorem dX12_lift_39 : decode cX12_lift 39 = .ok (.iload_n 2, 1) := by decide +kernel
theorem dX12_lift_40 : decode cX12_lift 40 = .ok (.i2l, 1) := by decide +kernel
theorem dX12_lift_41 : decode cX12_lift 41 = .ok (.lconst 0, 1) := by decide +kernel
theorem dX12_lift_42 : decode cX12_lift 42 = .ok (.aload_n 0, 1) := by decide +kernel
theorem dX12_lift_43 : decode cX12_lift 43 = .ok (.getfield 108, 3) := by decide +kernel
theorem dX12_lift_46 : decode cX12_lift 46 = .ok (.iload_n 1, 1) := by decide +kernel
theorem dX12_lift_47 : decode cX12_lift 47 = .ok (.iaload, 1) := by decide +kernel
theorem dX12_lift_48 : decode cX12_lift 48 = .ok (.iconst 1, 1) := by decide +kernel
theorem dX12_lift_49 : decode cX12_lift 49 = .ok (.isub, 1) := by decide +kernel
theorem dX12_lift_50 : decode cX12_lift 50 = .ok (.i2l, 1) := by decide +kernel
theorem dX12_lift_51 : decode cX12_lift 51 = .ok (.invokestatic 137, 3) := by decide +kernel
theorem dX12_lift_54 : decode cX12_lift 54 = .ok (.ifCond .ne 10, 3) := by decide +kernel
theorem dX12_lift_57 : decode cX12_lift 57 = .ok (.aload_n 0, 1) := by decide +kernel
theorem dX12_lift_58 : decode cX12_lift 58 = .ok (.bipush (-12), 2) := by decide +kernel
theorem dX12_lift_60 : decode cX12_lift 60 = .ok (.invokevirtual 211, 3) := by decide +kernel
theorem dX12_lift_63 : decode cX12_lift 63 = .ok (.ireturn, 1) := by decide +kernel
theorem dX12_lift_64 : decode cX12_lift 64 = .ok (.aload_n 0, 1) := by decide +kernel
theorem dX12_lift_65 : decode cX12_lift 65 = .ok (.getfield 105, 3) := by decide +kernel
theorem dX12_lift_68 : decode cX12_lift 68 = .ok (.iload_n 1, 1) := by decide +kernel
theorem dX12_lift_69 : decode cX12_lift 69 = .ok (.iaload, 1) := by decide +kernel
theorem dX12_lift_70 : decode cX12_lift 70 = .ok (.istore 4, 2) := by decide +kernel
theorem dX12_lift_72 : decode cX12_lift 72 = .ok (.aload_n 0, 1) := by decide +kernel
theorem dX12_lift_73 : decode cX12_lift 73 = .ok (.getfield 111, 3) := by decide +kernel
theorem dX12_lift_76 : decode cX12_lift 76 = .ok (.bipush 60, 2) := by decide +kernel
theorem dX12_lift_78 : decode cX12_lift 78 = .ok (.iload_n 1, 1) := by decide +kernel
theorem dX12_lift_79 : decode cX12_lift 79 = .ok (.imul, 1) := by decide +kernel
theorem dX12_lift_80 : decode cX12_lift 80 = .ok (.iload_n 2, 1) := by decide +kernel
theorem dX12_lift_81 : decode cX12_lift 81 = .ok (.iadd, 1) := by decide +kernel
theorem dX12_lift_82 : decode cX12_lift 82 = .ok (.iload 4, 2) := by decide +kernel
theorem dX12_lift_84 : decode cX12_lift 84 = .ok (.ifCond .ne 8, 3) := by decide +kernel
theorem dX12_lift_87 : decode cX12_lift 87 = .ok (.iload_n 3, 1) := by decide +kernel
theorem dX12_lift_88 : decode cX12_lift 88 = .ok (.i2b, 1) := by decide +kernel
theorem dX12_lift_89 : decode cX12_lift 89 = .ok (.goto 29, 3) := by decide +kernel
theorem dX12_lift_92 : decode cX12_lift 92 = .ok (.iload 4, 2) := by decide +kernel
theorem dX12_lift_94 : decode cX12_lift 94 = .ok (.iconst 1, 1) := by decide +kernel
theorem dX12_lift_95 : decode cX12_lift 95 = .ok (.if_icmp .ne 8, 3) := by decide +kernel
theorem dX12_lift_98 : decode cX12_lift 98 = .ok (.iload_n 3, 1) := by decide +kernel
theorem dX12_lift_99 : decode cX12_lift 99 = .ok (.i2s, 1) := by decide +kernel
theorem dX12_lift_100 : decode cX12_lift 100 = .ok (.goto 18, 3) := by decide +kernel
theorem dX12_lift_103 : decode cX12_lift 103 = .ok (.iload 4, 2) := by decide +kernel
theorem dX12_lift_105 : decode cX12_lift 105 = .ok (.iconst 2, 1) := by decide +kernel
theorem dX12_lift_106 : decode cX12_lift 106 = .ok (.if_icmp .ne 11, 3) := by decide +kernel
theorem dX12_lift_109 : decode cX12_lift 109 = .ok (.iload_n 3, 1) := by decide +kernel
theorem dX12_lift_110 : decode cX12_lift 110 = .ok (.ldc_w 332, 3) := by decide +kernel
theorem dX12_lift_113 : decode cX12_lift 113 = .ok (.iand, 1) := by decide +kernel
theorem dX12_lift_114 : decode cX12_lift 114 = .ok (.goto 4, 3) := by decide +kernel
theorem dX12_lift_117 : decode cX12_lift 117 = .ok (.iload_n 3, 1) := by decide +kernel
theorem dX12_lift_118 : decode cX12_lift 118 = .ok (.iastore, 1) := by decide +kernel
theorem dX12_lift_119 : decode cX12_lift 119 = .ok (.iconst 1, 1) := by decide +kernel
theorem dX12_lift_120 : decode cX12_lift 120 = .ok (.ireturn, 1) := by decide +kernel
theorem dX12_copy_0 : decode cX12_copy 0 = .ok (.aload_n 0, 1) := by decide +kernel
theorem dX12_copy_1 : decode cX12_copy 1 = .ok (.invokevirtual 144, 3) := by decide +kernel
theorem dX12_copy_4 : decode cX12_copy 4 = .ok (.iload_n 1, 1) := by decide +kernel
theorem dX12_copy_5 : decode cX12_copy 5 = .ok (.i2l, 1) := by decide +kernel
theorem dX12_copy_6 : decode cX12_copy 6 = .ok (.lconst 0, 1) := by decide +kernel
theorem dX12_copy_7 : decode cX12_copy 7 = .ok (.ldc2_w 231, 3) := by decide +kernel
theorem dX12_copy_10 : decode cX12_copy 10 = .ok (.invokestatic 137, 3) := by decide +kernel
theorem dX12_copy_13 : decode cX12_copy 13 = .ok (.ifCond .eq 15, 3) := by decide +kernel
theorem dX12_copy_16 : decode cX12_copy 16 = .ok (.iload_n 3, 1) := by decide +kernel
theorem dX12_copy_17 : decode cX12_copy 17 = .ok (.i2l, 1) := by decide +kernel
theorem dX12_copy_18 : decode cX12_copy 18 = .ok (.lconst 0, 1) := by decide +kernel
theorem dX12_copy_19 : decode cX12_copy 19 = .ok (.ldc2_w 231, 3) := by decide +kernel
theorem dX12_copy_22 : decode cX12_copy 22 = .ok (.invokestatic 137, 3) := by decide +kernel
theorem dX12_copy_25 : decode cX12_copy 25 = .ok (.ifCond .ne 10, 3) := by decide +kernel
theorem dX12_copy_28 : decode cX12_copy 28 = .ok (.aload_n 0, 1) := by decide +kernel
theorem dX12_copy_29 : decode cX12_copy 29 = .ok (.bipush (-2), 2) := by decide +kernel
theorem dX12_copy_31 : decode cX12_copy 31 = .ok (.invokevirtual 130, 3) := by decide +kernel
theorem dX12_copy_34 : decode cX12_copy 34 = .ok (.ireturn, 1) := by decide +kernel
theorem dX12_copy_35 : decode cX12_copy 35 = .ok (.aload_n 0, 1) := by decide +kernel
theorem dX12_copy_36 : decode cX12_copy 36 = .ok (.getfield 102, 3) := by decide +kernel
theorem dX12_copy_39 : decode cX12_copy 39 = .ok (.iload_n 1, 1) := by decide +kernel
theorem dX12_copy_40 : decode cX12_copy 40 = .ok (.baload, 1) := by decide +kernel
theorem dX12_copy_41 : decode cX12_copy 41 = .ok (.ifCond .eq 12, 3) := by decide +kernel
theorem dX12_copy_44 : decode cX12_copy 44 = .ok (.aload_n 0, 1) := by decide +kernel
theorem dX12_copy_45 : decode cX12_copy 45 = .ok (.getfield 102, 3) := by decide +kernel
theorem dX12_copy_48 : decode cX12_copy 48 = .ok (.iload_n 3, 1) := by decide +kernel
theorem dX12_copy_49 : decode cX12_copy 49 = .ok (.baload, 1) := by decide +kernel
theorem dX12_copy_50 : decode cX12_copy 50 = .ok (.ifCond .ne 10, 3) := by decide +kernel
theorem dX12_copy_53 : decode cX12_copy 53 = .ok (.aload_n 0, 1) := by decide +kernel
theorem dX12_copy_54 : decode cX12_copy 54 = .ok (.bipush (-11), 2) := by decide +kernel
theorem dX12_copy_56 : decode cX12_copy 56 = .ok (.invokevirtual 211, 3) := by decide +kernel
theorem dX12_copy_59 : decode cX12_copy 59 = .ok (.ireturn, 1) := by decide +kernel
theorem dX12_copy_60 : decode cX12_copy 60 = .ok (.aload_n 0, 1) := by decide +kernel
theorem dX12_copy_61 : decode cX12_copy 61 = .ok (.getfield 105, 3) := by decide +kernel
theorem dX12_copy_64 : decode cX12_copy 64 = .ok (.iload_n 1, 1) := by decide +kernel
theorem dX12_copy_65 : decode cX12_copy 65 = .ok (.iaload, 1) := by decide +kernel
theorem dX12_copy_66 : decode cX12_copy 66 = .ok (.aload_n 0, 1) := by decide +kernel
theorem dX12_copy_67 : decode cX12_copy 67 = .ok (.getfield 105, 3) := by decide +kernel
theorem dX12_copy_70 : decode cX12_copy 70 = .ok (.iload_n 3, 1) := by decide +kernel
theorem dX12_copy_71 : decode cX12_copy 71 = .ok (.iaload, 1) := by decide +kernel
theorem dX12_copy_72 : decode cX12_copy 72 = .ok (.if_icmp .eq 10, 3) := by decide +kernel
theorem dX12_copy_75 : decode cX12_copy 75 = .ok (.aload_n 0, 1) := by decide +kernel
theorem dX12_copy_76 : decode cX12_copy 76 = .ok (.bipush (-13), 2) := by decide +kernel
theorem dX12_copy_78 : decode cX12_copy 78 = .ok (.invokevirtual 211, 3) := by decide +kernel
theorem dX12_copy_81 : decode cX12_copy 81 = .ok (.ireturn, 1) := by decide +kernel
theorem dX12_copy_82 : decode cX12_copy 82 = .ok (.iload_n 2, 1) := by decide +kernel
theorem dX12_copy_83 : decode cX12_copy 83 = .ok (.iload 5, 2) := by decide +kernel
theorem dX12_copy_85 : decode cX12_copy 85 = .ok (.aload_n 0, 1) := by decide +kernel
theorem dX12_copy_86 : decode cX12_copy 86 = .ok (.getfield 108, 3) := by decide +kernel
theorem dX12_copy_89 : decode cX12_copy 89 = .ok (.iload_n 1, 1) := by decide +kernel
theorem dX12_copy_90 : decode cX12_copy 90 = .ok (.iaload, 1) := by decide +kernel
theorem dX12_copy_91 : decode cX12_copy 91 = .ok (.invokestatic 321, 3) := by decide +kernel
theorem dX12_copy_94 : decode cX12_copy 94 = .ok (.ifCond .eq 19, 3) := by decide +kernel
theorem dX12_copy_97 : decode cX12_copy 97 = .ok (.iload 4, 2) := by decide +kernel
theorem dX12_copy_99 : decode cX12_copy 99 = .ok (.iload 5, 2) := by decide +kernel
theorem dX12_copy_101 : decode cX12_copy 101 = .ok (.aload_n 0, 1) := by decide +kernel
theorem dX12_copy_102 : decode cX12_copy 102 = .ok (.getfield 108, 3) := by decide +kernel
theorem dX12_copy_105 : decode cX12_copy 105 = .ok (.iload_n 3, 1) := by decide +kernel
theorem dX12_copy_106 : decode cX12_copy 106 = .ok (.iaload, 1) := by decide +kernel
theorem dX12_copy_107 : decode cX12_copy 107 = .ok (.invokestatic 321, 3) := by decide +kernel
theorem dX12_copy_110 : decode cX12_copy 110 = .ok (.ifCond .ne 10, 3) := by decide +kernel
theorem dX12_copy_113 : decode cX12_copy 113 = .ok (.aload_n 0, 1) := by decide +kernel
theorem dX12_copy_114 : decode cX12_copy 114 = .ok (.bipush (-12), 2) := by decide +kernel
theorem dX12_copy_116 : decode cX12_copy 116 = .ok (.invokevirtual 211, 3) := by decide +kernel
theorem dX12_copy_119 : decode cX12_copy 119 = .ok (.ireturn, 1) := by decide +kernel
theorem dX12_copy_120 : decode cX12_copy 120 = .ok (.iconst 0, 1) := by decide +kernel
theorem dX12_copy_121 : decode cX12_copy 121 = .ok (.istore 6, 2) := by decide +kernel
theorem dX12_copy_123 : decode cX12_copy 123 = .ok (.iload 6, 2) := by decide +kernel
theorem dX12_copy_125 : decode cX12_copy 125 = .ok (.iload 5, 2) := by decide +kernel
theorem dX12_copy_127 : decode cX12_copy 127 = .ok (.if_icmp .ge 30, 3) := by decide +kernel
theorem dX12_copy_130 : decode cX12_copy 130 = .ok (.aload_n 0, 1) := by decide +kernel
theorem dX12_copy_131 : decode cX12_copy 131 = .ok (.getfield 114, 3) := by decide +kernel
theorem dX12_copy_134 : decode cX12_copy 134 = .ok (.iload 6, 2) := by decide +kernel
theorem dX12_copy_136 : decode cX12_copy 136 = .ok (.aload_n 0, 1) := by decide +kernel
theorem dX12_copy_137 : decode cX12_copy 137 = .ok (.getfield 111, 3) := by decide +kernel
theorem dX12_copy_140 : decode cX12_copy 140 = .ok (.bipush 60, 2) := by decide +kernel
theorem dX12_copy_142 : decode cX12_copy 142 = .ok (.iload_n 1, 1) := by decide +kernel
theorem dX12_copy_143 : decode cX12_copy 143 = .ok (.imul, 1) := by decide +kernel
theorem dX12_copy_144 : decode cX12_copy 144 = .ok (.iload_n 2, 1) := by decide +kernel
theorem dX12_copy_145 : decode cX12_copy 145 = .ok (.iadd, 1) := by decide +kernel
theorem dX12_copy_146 : decode cX12_copy 146 = .ok (.iload 6, 2) := by decide +kernel
theorem dX12_copy_148 : decode cX12_copy 148 = .ok (.iadd, 1) := by decide +kernel
theorem dX12_copy_149 : decode cX12_copy 149 = .ok (.iaload, 1) := by decide +kernel
theorem dX12_copy_150 : decode cX12_copy 150 = .ok (.iastore, 1) := by decide +kernel
theorem dX12_copy_151 : decode cX12_copy 151 = .ok (.iinc 6 1, 3) := by decide +kernel
theorem dX12_copy_154 : decode cX12_copy 154 = .ok (.goto (-31), 3) := by decide +kernel
theorem dX12_copy_157 : decode cX12_copy 157 = .ok (.iconst 0, 1) := by decide +kernel
theorem dX12_copy_158 : decode cX12_copy 158 = .ok (.istore 6, 2) := by decide +kernel
theorem dX12_copy_160 : decode cX12_copy 160 = .ok (.iload 6, 2) := by decide +kernel
theorem dX12_copy_162 : decode cX12_copy 162 = .ok (.iload 5, 2) := by decide +kernel
theorem dX12_copy_164 : decode cX12_copy 164 = .ok (.if_icmp .ge 31, 3) := by decide +kernel
theorem dX12_copy_167 : decode cX12_copy 167 = .ok (.aload_n 0, 1) := by decide +kernel
theorem dX12_copy_168 : decode cX12_copy 168 = .ok (.getfield 111, 3) := by decide +kernel
theorem dX12_copy_171 : decode cX12_copy 171 = .ok (.bipush 60, 2) := by decide +kernel
theorem dX12_copy_173 : decode cX12_copy 173 = .ok (.iload_n 3, 1) := by decide +kernel
theorem dX12_copy_174 : decode cX12_copy 174 = .ok (.imul, 1) := by decide +kernel
theorem dX12_copy_175 : decode cX12_copy 175 = .ok (.iload 4, 2) := by decide +kernel
theorem dX12_copy_177 : decode cX12_copy 177 = .ok (.iadd, 1) := by decide +kernel
theorem dX12_copy_178 : decode cX12_copy 178 = .ok (.iload 6, 2) := by decide +kernel
theorem dX12_copy_180 : decode cX12_copy 180 = .ok (.iadd, 1) := by decide +kernel
theorem dX12_copy_181 : decode cX12_copy 181 = .ok (.aload_n 0, 1) := by decide +kernel
theorem dX12_copy_182 : decode cX12_copy 182 = .ok (.getfield 114, 3) := by decide +kernel
theorem dX12_copy_185 : decode cX12_copy 185 = .ok (.iload 6, 2) := by decide +kernel
theorem dX12_copy_187 : decode cX12_copy 187 = .ok (.iaload, 1) := by decide +kernel
theorem dX12_copy_188 : decode cX12_copy 188 = .ok (.iastore, 1) := by decide +kernel
theorem dX12_copy_189 : decode cX12_copy 189 = .ok (.iinc 6 1, 3) := by decide +kernel
theorem dX12_copy_192 : decode cX12_copy 192 = .ok (.goto (-32), 3) := by decide +kernel
theorem dX12_copy_195 : decode cX12_copy 195 = .ok (.iload 5, 2) := by decide +kernel
theorem dX12_copy_197 : decode cX12_copy 197 = .ok (.ireturn, 1) := by decide +kernel
theorem dX12_play_0 : decode cX12_play 0 = .ok (.aload_n 0, 1) := by decide +kernel
theorem dX12_play_1 : decode cX12_play 1 = .ok (.invokevirtual 144, 3) := by decide +kernel
theorem dX12_play_4 : decode cX12_play 4 = .ok (.iload_n 1, 1) := by decide +kernel
theorem dX12_play_5 : decode cX12_play 5 = .ok (.i2l, 1) := by decide +kernel
theorem dX12_play_6 : decode cX12_play 6 = .ok (.lconst 0, 1) := by decide +kernel
theorem dX12_play_7 : decode cX12_play 7 = .ok (.ldc2_w 231, 3) := by decide +kernel
theorem dX12_play_10 : decode cX12_play 10 = .ok (.invokestatic 137, 3) := by decide +kernel
theorem dX12_play_13 : decode cX12_play 13 = .ok (.ifCond .eq 11, 3) := by decide +kernel
theorem dX12_play_16 : decode cX12_play 16 = .ok (.aload_n 0, 1) := by decide +kernel
theorem dX12_play_17 : decode cX12_play 17 = .ok (.iload_n 2, 1) := by decide +kernel
theorem dX12_play_18 : decode cX12_play 18 = .ok (.invokevirtual 184, 3) := by decide +kernel
theorem dX12_play_21 : decode cX12_play 21 = .ok (.ifCond .ne 10, 3) := by decide +kernel
theorem dX12_play_24 : decode cX12_play 24 = .ok (.aload_n 0, 1) := by decide +kernel
theorem dX12_play_25 : decode cX12_play 25 = .ok (.bipush (-2), 2) := by decide +kernel
theorem dX12_play_27 : decode cX12_play 27 = .ok (.invokevirtual 130, 3) := by decide +kernel
theorem dX12_play_30 : decode cX12_play 30 = .ok (.ireturn, 1) := by decide +kernel
theorem dX12_play_31 : decode cX12_play 31 = .ok (.iconst 0, 1) := by decide +kernel
theorem dX12_play_32 : decode cX12_play 32 = .ok (.istore_n 3, 1) := by decide +kernel
theorem dX12_play_33 : decode cX12_play 33 = .ok (.iconst 0, 1) := by decide +kernel
theorem dX12_play_34 : decode cX12_play 34 = .ok (.istore 4, 2) := by decide +kernel
theorem dX12_play_36 : decode cX12_play 36 = .ok (.iload 4, 2) := by decide +kernel
theorem dX12_play_38 : decode cX12_play 38 = .ok (.aload_n 0, 1) := by decide +kernel
theorem dX12_play_39 : decode cX12_play 39 = .ok (.getfield 45, 3) := by decide +kernel
theorem dX12_play_42 : decode cX12_play 42 = .ok (.iload_n 2, 1) := by decide +kernel
theorem dX12_play_43 : decode cX12_play 43 = .ok (.iaload, 1) := by decide +kernel
theorem dX12_play_44 : decode cX12_play 44 = .ok (.if_icmp .ge 136, 3) := by decide +kernel
theorem dX12_play_47 : decode cX12_play 47 = .ok (.aload_n 0, 1) := by decide +kernel
theorem dX12_play_48 : decode cX12_play 48 = .ok (.getfield 42, 3) := by decide +kernel
theorem dX12_play_51 : decode cX12_play 51 = .ok (.bipush 40, 2) := by decide +kernel
theorem dX12_play_53 : decode cX12_play 53 = .ok (.iload_n 2, 1) := by decide +kernel
theorem dX12_play_54 : decode cX12_play 54 = .ok (.imul, 1) := by decide +kernel
theorem dX12_play_55 : decode cX12_play 55 = .ok (.iload 4, 2) := by decide +kernel
theorem dX12_play_57 : decode cX12_play 57 = .ok (.iadd, 1) := by decide +kernel
theorem dX12_play_58 : decode cX12_play 58 = .ok (.iaload, 1) := by decide +kernel
theorem dX12_play_59 : decode cX12_play 59 = .ok (.istore 5, 2) := by decide +kernel
theorem dX12_play_61 : decode cX12_play 61 = .ok (.aload_n 0, 1) := by decide +kernel
theorem dX12_play_62 : decode cX12_play 62 = .ok (.iload 5, 2) := by decide +kernel
theorem dX12_play_64 : decode cX12_play 64 = .ok (.invokevirtual 214, 3) := by decide +kernel
theorem dX12_play_67 : decode cX12_play 67 = .ok (.ifCond .eq 107, 3) := by decide +kernel
theorem dX12_play_70 : decode cX12_play 70 = .ok (.aload_n 0, 1) := by decide +kernel
theorem dX12_play_71 : decode cX12_play 71 = .ok (.getfield 102, 3) := by decide +kernel
theorem dX12_play_74 : decode cX12_play 74 = .ok (.iload_n 1, 1) := by decide +kernel
theorem dX12_play_75 : decode cX12_play 75 = .ok (.baload, 1) := by decide +kernel
theorem dX12_play_76 : decode cX12_play 76 = .ok (.ifCond .ne 15, 3) := by decide +kernel
theorem dX12_play_79 : decode cX12_play 79 = .ok (.aload_n 0, 1) := by decide +kernel
theorem dX12_play_80 : decode cX12_play 80 = .ok (.aload_n 0, 1) := by decide +kernel
theorem dX12_play_81 : decode cX12_play 81 = .ok (.bipush (-11), 2) := by decide +kernel
theorem dX12_play_83 : decode cX12_play 83 = .ok (.invokevirtual 211, 3) := by decide +kernel
theorem dX12_play_86 : decode cX12_play 86 = .ok (.putfield 325, 3) := by decide +kernel
theorem dX12_play_89 : decode cX12_play 89 = .ok (.iload_n 3, 1) := by decide +kernel
theorem dX12_play_90 : decode cX12_play 90 = .ok (.ireturn, 1) := by decide +kernel
theorem dX12_play_91 : decode cX12_play 91 = .ok (.iload_n 3, 1) := by decide +kernel
theorem dX12_play_92 : decode cX12_play 92 = .ok (.aload_n 0, 1) := by decide +kernel
theorem dX12_play_93 : decode cX12_play 93 = .ok (.getfield 108, 3) := by decide +kernel
theorem dX12_play_96 : decode cX12_play 96 = .ok (.iload_n 1, 1) := by decide +kernel
theorem dX12_play_97 : decode cX12_play 97 = .ok (.iaload, 1) := by decide +kernel
theorem dX12_play_98 : decode cX12_play 98 = .ok (.if_icmp .ne 15, 3) := by decide +kernel
theorem dX12_play_101 : decode cX12_play 101 = .ok (.aload_n 0, 1) := by decide +kernel
theorem dX12_play_102 : decode cX12_play 102 = .ok (.aload_n 0, 1) := by decide +kernel
theorem dX12_play_103 : decode cX12_play 103 = .ok (.bipush (-12), 2) := by decide +kernel
theorem dX12_play_105 : decode cX12_play 105 = .ok (.invokevirtual 211, 3) := by decide +kernel
theorem dX12_play_108 : decode cX12_play 108 = .ok (.putfield 325, 3) := by decide +kernel
theorem dX12_play_111 : decode cX12_play 111 = .ok (.iload_n 3, 1) := by decide +kernel
theorem dX12_play_112 : decode cX12_play 112 = .ok (.ireturn, 1) := by decide +kernel
theorem dX12_play_113 : decode cX12_play 113 = .ok (.aload_n 0, 1) := by decide +kernel
theorem dX12_play_114 : decode cX12_play 114 = .ok (.getfield 111, 3) := by decide +kernel
theorem dX12_play_117 : decode cX12_play 117 = .ok (.bipush 60, 2) := by decide +kernel
theorem dX12_play_119 : decode cX12_play 119 = .ok (.iload_n 1, 1) := by decide +kernel
theorem dX12_play_120 : decode cX12_play 120 = .ok (.imul, 1) := by decide +kernel
theorem dX12_play_121 : decode cX12_play 121 = .ok (.iload_n 3, 1) := by decide +kernel
theorem dX12_play_122 : decode cX12_play 122 = .ok (.iadd, 1) := by decide +kernel
theorem dX12_play_123 : decode cX12_play 123 = .ok (.iaload, 1) := by decide +kernel
theorem dX12_play_124 : decode cX12_play 124 = .ok (.i2l, 1) := by decide +kernel
theorem dX12_play_125 : decode cX12_play 125 = .ok (.aload_n 0, 1) := by decide +kernel
theorem dX12_play_126 : decode cX12_play 126 = .ok (.getfield 30, 3) := by decide +kernel
theorem dX12_play_129 : decode cX12_play 129 = .ok (.bipush 6, 2) := by decide +kernel
theorem dX12_play_131 : decode cX12_play 131 = .ok (.iload 5, 2) := by decide +kernel
theorem dX12_play_133 : decode cX12_play 133 = .ok (.imul, 1) := by decide +kernel
theorem dX12_play_134 : decode cX12_play 134 = .ok (.iaload, 1) := by decide +kernel
theorem dX12_play_135 : decode cX12_play 135 = .ok (.i2l, 1) := by decide +kernel
theorem dX12_play_136 : decode cX12_play 136 = .ok (.lsub, 1) := by decide +kernel
theorem dX12_play_137 : decode cX12_play 137 = .ok (.lstore 6, 2) := by decide +kernel
theorem dX12_play_139 : decode cX12_play 139 = .ok (.aload_n 0, 1) := by decide +kernel
theorem dX12_play_140 : decode cX12_play 140 = .ok (.iload 5, 2) := by decide +kernel
theorem dX12_play_142 : decode cX12_play 142 = .ok (.lload 6, 2) := by decide +kernel
theorem dX12_play_144 : decode cX12_play 144 = .ok (.invokevirtual 223, 3) := by decide +kernel
theorem dX12_play_147 : decode cX12_play 147 = .ok (.ifCond .ne 15, 3) := by decide +kernel
theorem dX12_play_150 : decode cX12_play 150 = .ok (.aload_n 0, 1) := by decide +kernel
theorem dX12_play_151 : decode cX12_play 151 = .ok (.aload_n 0, 1) := by decide +kernel
theorem dX12_play_152 : decode cX12_play 152 = .ok (.bipush (-12), 2) := by decide +kernel
theorem dX12_play_154 : decode cX12_play 154 = .ok (.invokevirtual 211, 3) := by decide +kernel
theorem dX12_play_157 : decode cX12_play 157 = .ok (.putfield 325, 3) := by decide +kernel
theorem dX12_play_160 : decode cX12_play 160 = .ok (.iload_n 3, 1) := by decide +kernel
theorem dX12_play_161 : decode cX12_play 161 = .ok (.ireturn, 1) := by decide +kernel
theorem dX12_play_162 : decode cX12_play 162 = .ok (.aload_n 0, 1) := by decide +kernel
theorem dX12_play_163 : decode cX12_play 163 = .ok (.iload 5, 2) := by decide +kernel
theorem dX12_play_165 : decode cX12_play 165 = .ok (.lload 6, 2) := by decide +kernel
theorem dX12_play_167 : decode cX12_play 167 = .ok (.l2i, 1) := by decide +kernel
theorem dX12_play_168 : decode cX12_play 168 = .ok (.invokevirtual 227, 3) := by decide +kernel
theorem dX12_play_171 : decode cX12_play 171 = .ok (.iinc 3 1, 3) := by decide +kernel
theorem dX12_play_174 : decode cX12_play 174 = .ok (.iinc 4 1, 3) := by decide +kernel
theorem dX12_play_177 : decode cX12_play 177 = .ok (.goto (-141), 3) := by decide +kernel
theorem dX12_play_180 : decode cX12_play 180 = .ok (.iload_n 3, 1) := by decide +kernel
theorem dX12_play_181 : decode cX12_play 181 = .ok (.ireturn, 1) := by decide +kernel
theorem dX12_failures_0 : decode cX12_failures 0 = .ok (.aload_n 0, 1) := by decide +kernel
theorem dX12_failures_1 : decode cX12_failures 1 = .ok (.iconst 0, 1) := by decide +kernel
theorem dX12_failures_2 : decode cX12_failures 2 = .ok (.putfield 123, 3) := by decide +kernel
theorem dX12_failures_5 : decode cX12_failures 5 = .ok (.iload_n 1, 1) := by decide +kernel
theorem dX12_failures_6 : decode cX12_failures 6 = .ok (.i2l, 1) := by decide +kernel
theorem dX12_failures_7 : decode cX12_failures 7 = .ok (.lconst 0, 1) := by decide +kernel
theorem dX12_failures_8 : decode cX12_failures 8 = .ok (.ldc2_w 172, 3) := by decide +kernel
theorem dX12_failures_11 : decode cX12_failures 11 = .ok (.invokestatic 137, 3) := by decide +kernel
theorem dX12_failures_14 : decode cX12_failures 14 = .ok (.ifCond .eq 12, 3) := by decide +kernel
theorem dX12_failures_17 : decode cX12_failures 17 = .ok (.aload_n 0, 1) := by decide +kernel
theorem dX12_failures_18 : decode cX12_failures 18 = .ok (.getfield 117, 3) := by decide +kernel
theorem dX12_failures_21 : decode cX12_failures 21 = .ok (.iload_n 1, 1) := by decide +kernel
theorem dX12_failures_22 : decode cX12_failures 22 = .ok (.iaload, 1) := by decide +kernel
theorem dX12_failures_23 : decode cX12_failures 23 = .ok (.goto 5, 3) := by decide +kernel
theorem dX12_failures_26 : decode cX12_failures 26 = .ok (.bipush (-2), 2) := by decide +kernel
theorem dX12_failures_28 : decode cX12_failures 28 = .ok (.ireturn, 1) := by decide +kernel
theorem dX12_status_0 : decode cX12_status 0 = .ok (.aload_n 0, 1) := by decide +kernel
theorem dX12_status_1 : decode cX12_status 1 = .ok (.iconst 0, 1) := by decide +kernel
theorem dX12_status_2 : decode cX12_status 2 = .ok (.putfield 123, 3) := by decide +kernel
theorem dX12_status_5 : decode cX12_status 5 = .ok (.aload_n 0, 1) := by decide +kernel
theorem dX12_status_6 : decode cX12_status 6 = .ok (.getfield 127, 3) := by decide +kernel
theorem dX12_status_9 : decode cX12_status 9 = .ok (.ireturn, 1) := by decide +kernel
theorem dX12_trace_0 : decode cX12_trace 0 = .ok (.aload_n 0, 1) := by decide +kernel
theorem dX12_trace_1 : decode cX12_trace 1 = .ok (.iconst 0, 1) := by decide +kernel
theorem dX12_trace_2 : decode cX12_trace 2 = .ok (.putfield 123, 3) := by decide +kernel
theorem dX12_trace_5 : decode cX12_trace 5 = .ok (.aload_n 0, 1) := by decide +kernel
theorem dX12_trace_6 : decode cX12_trace 6 = .ok (.getfield 156, 3) := by decide +kernel
theorem dX12_trace_9 : decode cX12_trace 9 = .ok (.lreturn, 1) := by decide +kernel
theorem dX12_count_0 : decode cX12_count 0 = .ok (.aload_n 0, 1) := by decide +kernel
theorem dX12_count_1 : decode cX12_count 1 = .ok (.iconst 0, 1) := by decide +kernel
theorem dX12_count_2 : decode cX12_count 2 = .ok (.putfield 123, 3) := by decide +kernel
theorem dX12_count_5 : decode cX12_count 5 = .ok (.iload_n 1, 1) := by decide +kernel
theorem dX12_count_6 : decode cX12_count 6 = .ok (.tableswitch 77 0 6 #[42, 47, 52, 57, 62, 67, 72], 42) := by decide +kernel
theorem dX12_count_48 : decode cX12_count 48 = .ok (.aload_n 0, 1) := by decide +kernel
theorem dX12_count_49 : decode cX12_count 49 = .ok (.getfield 134, 3) := by decide +kernel
theorem dX12_count_52 : decode cX12_count 52 = .ok (.ireturn, 1) := by decide +kernel
theorem dX12_count_53 : decode cX12_count 53 = .ok (.aload_n 0, 1) := by decide +kernel
theorem dX12_count_54 : decode cX12_count 54 = .ok (.getfield 151, 3) := by decide +kernel
theorem dX12_count_57 : decode cX12_count 57 = .ok (.ireturn, 1) := by decide +kernel
theorem dX12_count_58 : decode cX12_count 58 = .ok (.aload_n 0, 1) := by decide +kernel
theorem dX12_count_59 : decode cX12_count 59 = .ok (.getfield 190, 3) := by decide +kernel
theorem dX12_count_62 : decode cX12_count 62 = .ok (.ireturn, 1) := by decide +kernel
theorem dX12_count_63 : decode cX12_count 63 = .ok (.aload_n 0, 1) := by decide +kernel
theorem dX12_count_64 : decode cX12_count 64 = .ok (.getfield 141, 3) := by decide +kernel
theorem dX12_count_67 : decode cX12_count 67 = .ok (.ireturn, 1) := by decide +kernel
theorem dX12_count_68 : decode cX12_count 68 = .ok (.aload_n 0, 1) := by decide +kernel
theorem dX12_count_69 : decode cX12_count 69 = .ok (.getfield 202, 3) := by decide +kernel
theorem dX12_count_72 : decode cX12_count 72 = .ok (.ireturn, 1) := by decide +kernel
theorem dX12_count_73 : decode cX12_count 73 = .ok (.aload_n 0, 1) := by decide +kernel
theorem dX12_count_74 : decode cX12_count 74 = .ok (.getfield 208, 3) := by decide +kernel
theorem dX12_count_77 : decode cX12_count 77 = .ok (.ireturn, 1) := by decide +kernel
theorem dX12_count_78 : decode cX12_count 78 = .ok (.aload_n 0, 1) := by decide +kernel
theorem dX12_count_79 : decode cX12_count 79 = .ok (.getfield 289, 3) := by decide +kernel
theorem dX12_count_82 : decode cX12_count 82 = .ok (.ireturn, 1) := by decide +kernel
theorem dX12_count_83 : decode cX12_count 83 = .ok (.bipush (-2), 2) := by decide +kernel
theorem dX12_count_85 : decode cX12_count 85 = .ok (.ireturn, 1) := by decide +kernel
theorem dJ6_bitCount_0f7a4_0 : decode cJ6_bitCount_0f7a4 0 = .ok (.iload_n 0, 1) := by decide +kernel
theorem dJ6_bitCount_0f7a4_1 : decode cJ6_bitCount_0f7a4 1 = .ok (.iload_n 0, 1) := by decide +kernel
theorem dJ6_bitCount_0f7a4_2 : decode cJ6_bitCount_0f7a4 2 = .ok (.iconst 1, 1) := by decide +kernel
theorem dJ6_bitCount_0f7a4_3 : decode cJ6_bitCount_0f7a4 3 = .ok (.iushr, 1) := by decide +kernel
theorem dJ6_bitCount_0f7a4_4 : decode cJ6_bitCount_0f7a4 4 = .ok (.ldc_w 265, 3) := by decide +kernel
theorem dJ6_bitCount_0f7a4_7 : decode cJ6_bitCount_0f7a4 7 = .ok (.iand, 1) := by decide +kernel
theorem dJ6_bitCount_0f7a4_8 : decode cJ6_bitCount_0f7a4 8 = .ok (.isub, 1) := by decide +kernel
theorem dJ6_bitCount_0f7a4_9 : decode cJ6_bitCount_0f7a4 9 = .ok (.istore_n 0, 1) := by decide +kernel
theorem dJ6_bitCount_0f7a4_10 : decode cJ6_bitCount_0f7a4 10 = .ok (.iload_n 0, 1) := by decide +kernel
theorem dJ6_bitCount_0f7a4_11 : decode cJ6_bitCount_0f7a4 11 = .ok (.ldc_w 266, 3) := by decide +kernel
theorem dJ6_bitCount_0f7a4_14 : decode cJ6_bitCount_0f7a4 14 = .ok (.iand, 1) := by decide +kernel
theorem dJ6_bitCount_0f7a4_15 : decode cJ6_bitCount_0f7a4 15 = .ok (.iload_n 0, 1) := by decide +kernel
theorem dJ6_bitCount_0f7a4_16 : decode cJ6_bitCount_0f7a4 16 = .ok (.iconst 2, 1) := by decide +kernel
theorem dJ6_bitCount_0f7a4_17 : decode cJ6_bitCount_0f7a4 17 = .ok (.iushr, 1) := by decide +kernel
theorem dJ6_bitCount_0f7a4_18 : decode cJ6_bitCount_0f7a4 18 = .ok (.ldc_w 266, 3) := by decide +kernel
theorem dJ6_bitCount_0f7a4_21 : decode cJ6_bitCount_0f7a4 21 = .ok (.iand, 1) := by decide +kernel
theorem dJ6_bitCount_0f7a4_22 : decode cJ6_bitCount_0f7a4 22 = .ok (.iadd, 1) := by decide +kernel
theorem dJ6_bitCount_0f7a4_23 : decode cJ6_bitCount_0f7a4 23 = .ok (.istore_n 0, 1) := by decide +kernel
theorem dJ6_bitCount_0f7a4_24 : decode cJ6_bitCount_0f7a4 24 = .ok (.iload_n 0, 1) := by decide +kernel
theorem dJ6_bitCount_0f7a4_25 : decode cJ6_bitCount_0f7a4 25 = .ok (.iload_n 0, 1) := by decide +kernel
theorem dJ6_bitCount_0f7a4_26 : decode cJ6_bitCount_0f7a4 26 = .ok (.iconst 4, 1) := by decide +kernel
theorem dJ6_bitCount_0f7a4_27 : decode cJ6_bitCount_0f7a4 27 = .ok (.iushr, 1) := by decide +kernel
theorem dJ6_bitCount_0f7a4_28 : decode cJ6_bitCount_0f7a4 28 = .ok (.iadd, 1) := by decide +kernel
theorem dJ6_bitCount_0f7a4_29 : decode cJ6_bitCount_0f7a4 29 = .ok (.ldc_w 267, 3) := by decide +kernel
theorem dJ6_bitCount_0f7a4_32 : decode cJ6_bitCount_0f7a4 32 = .ok (.iand, 1) := by decide +kernel
theorem dJ6_bitCount_0f7a4_33 : decode cJ6_bitCount_0f7a4 33 = .ok (.istore_n 0, 1) := by decide +kernel
theorem dJ6_bitCount_0f7a4_34 : decode cJ6_bitCount_0f7a4 34 = .ok (.iload_n 0, 1) := by decide +kernel
theorem dJ6_bitCount_0f7a4_35 : decode cJ6_bitCount_0f7a4 35 = .ok (.iload_n 0, 1) := by decide +kernel
theorem dJ6_bitCount_0f7a4_36 : decode cJ6_bitCount_0f7a4 36 = .ok (.bipush 8, 2) := by decide +kernel
theorem dJ6_bitCount_0f7a4_38 : decode cJ6_bitCount_0f7a4 38 = .ok (.iushr, 1) := by decide +kernel
theorem dJ6_bitCount_0f7a4_39 : decode cJ6_bitCount_0f7a4 39 = .ok (.iadd, 1) := by decide +kernel
theorem dJ6_bitCount_0f7a4_40 : decode cJ6_bitCount_0f7a4 40 = .ok (.istore_n 0, 1) := by decide +kernel
theorem dJ6_bitCount_0f7a4_41 : decode cJ6_bitCount_0f7a4 41 = .ok (.iload_n 0, 1) := by decide +kernel
theorem dJ6_bitCount_0f7a4_42 : decode cJ6_bitCount_0f7a4 42 = .ok (.iload_n 0, 1) := by decide +kernel
theorem dJ6_bitCount_0f7a4_43 : decode cJ6_bitCount_0f7a4 43 = .ok (.bipush 16, 2) := by decide +kernel
theorem dJ6_bitCount_0f7a4_45 : decode cJ6_bitCount_0f7a4 45 = .ok (.iushr, 1) := by decide +kernel
theorem dJ6_bitCount_0f7a4_46 : decode cJ6_bitCount_0f7a4 46 = .ok (.iadd, 1) := by decide +kernel
theorem dJ6_bitCount_0f7a4_47 : decode cJ6_bitCount_0f7a4 47 = .ok (.istore_n 0, 1) := by decide +kernel
theorem dJ6_bitCount_0f7a4_48 : decode cJ6_bitCount_0f7a4 48 = .ok (.iload_n 0, 1) := by decide +kernel
theorem dJ6_bitCount_0f7a4_49 : decode cJ6_bitCount_0f7a4 49 = .ok (.bipush 63, 2) := by decide +kernel
theorem dJ6_bitCount_0f7a4_51 : decode cJ6_bitCount_0f7a4 51 = .ok (.iand, 1) := by decide +kernel
theorem dJ6_bitCount_0f7a4_52 : decode cJ6_bitCount_0f7a4 52 = .ok (.ireturn, 1) := by decide +kernel
theorem dJ9_max_7cf53_0 : decode cJ9_max_7cf53 0 = .ok (.iload_n 0, 1) := by decide +kernel
theorem dJ9_max_7cf53_1 : decode cJ9_max_7cf53 1 = .ok (.iload_n 1, 1) := by decide +kernel
theorem dJ9_max_7cf53_2 : decode cJ9_max_7cf53 2 = .ok (.if_icmp .lt 7, 3) := by decide +kernel
theorem dJ9_max_7cf53_5 : decode cJ9_max_7cf53 5 = .ok (.iload_n 0, 1) := by decide +kernel
theorem dJ9_max_7cf53_6 : decode cJ9_max_7cf53 6 = .ok (.goto 4, 3) := by decide +kernel
theorem dJ9_max_7cf53_9 : decode cJ9_max_7cf53 9 = .ok (.iload_n 1, 1) := by decide +kernel
theorem dJ9_max_7cf53_10 : decode cJ9_max_7cf53 10 = .ok (.ireturn, 1) := by decide +kernel
theorem dJ9_max_f86c9_0 : decode cJ9_max_f86c9 0 = .ok (.lload_n 0, 1) := by decide +kernel
theorem dJ9_max_f86c9_1 : decode cJ9_max_f86c9 1 = .ok (.lload_n 2, 1) := by decide +kernel
theorem dJ9_max_f86c9_2 : decode cJ9_max_f86c9 2 = .ok (.lcmp, 1) := by decide +kernel
theorem dJ9_max_f86c9_3 : decode cJ9_max_f86c9 3 = .ok (.ifCond .lt 7, 3) := by decide +kernel
theorem dJ9_max_f86c9_6 : decode cJ9_max_f86c9 6 = .ok (.lload_n 0, 1) := by decide +kernel
theorem dJ9_max_f86c9_7 : decode cJ9_max_f86c9 7 = .ok (.goto 4, 3) := by decide +kernel
theorem dJ9_max_f86c9_10 : decode cJ9_max_f86c9 10 = .ok (.lload_n 2, 1) := by decide +kernel
theorem dJ9_max_f86c9_11 : decode cJ9_max_f86c9 11 = .ok (.lreturn, 1) := by decide +kernel
theorem dJ9_min_7cf53_0 : decode cJ9_min_7cf53 0 = .ok (.iload_n 0, 1) := by decide +kernel
theorem dJ9_min_7cf53_1 : decode cJ9_min_7cf53 1 = .ok (.iload_n 1, 1) := by decide +kernel
theorem dJ9_min_7cf53_2 : decode cJ9_min_7cf53 2 = .ok (.if_icmp .gt 7, 3) := by decide +kernel
theorem dJ9_min_7cf53_5 : decode cJ9_min_7cf53 5 = .ok (.iload_n 0, 1) := by decide +kernel
theorem dJ9_min_7cf53_6 : decode cJ9_min_7cf53 6 = .ok (.goto 4, 3) := by decide +kernel
theorem dJ9_min_7cf53_9 : decode cJ9_min_7cf53 9 = .ok (.iload_n 1, 1) := by decide +kernel
theorem dJ9_min_7cf53_10 : decode cJ9_min_7cf53 10 = .ok (.ireturn, 1) := by decide +kernel
theorem dJ7_fill_53178_0 : decode cJ7_fill_53178 0 = .ok (.iconst 0, 1) := by decide +kernel
theorem dJ7_fill_53178_1 : decode cJ7_fill_53178 1 = .ok (.istore_n 2, 1) := by decide +kernel
theorem dJ7_fill_53178_2 : decode cJ7_fill_53178 2 = .ok (.aload_n 0, 1) := by decide +kernel
theorem dJ7_fill_53178_3 : decode cJ7_fill_53178 3 = .ok (.arraylength, 1) := by decide +kernel
theorem dJ7_fill_53178_4 : decode cJ7_fill_53178 4 = .ok (.istore_n 3, 1) := by decide +kernel
theorem dJ7_fill_53178_5 : decode cJ7_fill_53178 5 = .ok (.iload_n 2, 1) := by decide +kernel
theorem dJ7_fill_53178_6 : decode cJ7_fill_53178 6 = .ok (.iload_n 3, 1) := by decide +kernel
theorem dJ7_fill_53178_7 : decode cJ7_fill_53178 7 = .ok (.if_icmp .ge 13, 3) := by decide +kernel
theorem dJ7_fill_53178_10 : decode cJ7_fill_53178 10 = .ok (.aload_n 0, 1) := by decide +kernel
theorem dJ7_fill_53178_11 : decode cJ7_fill_53178 11 = .ok (.iload_n 2, 1) := by decide +kernel
theorem dJ7_fill_53178_12 : decode cJ7_fill_53178 12 = .ok (.iload_n 1, 1) := by decide +kernel
theorem dJ7_fill_53178_13 : decode cJ7_fill_53178 13 = .ok (.iastore, 1) := by decide +kernel
theorem dJ7_fill_53178_14 : decode cJ7_fill_53178 14 = .ok (.iinc 2 1, 3) := by decide +kernel
theorem dJ7_fill_53178_17 : decode cJ7_fill_53178 17 = .ok (.goto (-12), 3) := by decide +kernel
theorem dJ7_fill_53178_20 : decode cJ7_fill_53178 20 = .ok (.return_, 1) := by decide +kernel
