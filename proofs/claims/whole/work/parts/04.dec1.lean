theorem dX11_slide_59 : decode cX11_slide 59 = .ok (.invokevirtual 180, 3) := by decide +kernel
theorem dX11_slide_62 : decode cX11_slide 62 = .ok (.ireturn, 1) := by decide +kernel
theorem dX11_slide_63 : decode cX11_slide 63 = .ok (.aload 5, 2) := by decide +kernel
theorem dX11_slide_65 : decode cX11_slide 65 = .ok (.getfield 372, 3) := by decide +kernel
theorem dX11_slide_68 : decode cX11_slide 68 = .ok (.iload_n 2, 1) := by decide +kernel
theorem dX11_slide_69 : decode cX11_slide 69 = .ok (.aload 5, 2) := by decide +kernel
theorem dX11_slide_71 : decode cX11_slide 71 = .ok (.getfield 372, 3) := by decide +kernel
theorem dX11_slide_74 : decode cX11_slide 74 = .ok (.iload_n 3, 1) := by decide +kernel
theorem dX11_slide_75 : decode cX11_slide 75 = .ok (.iload 4, 2) := by decide +kernel
theorem dX11_slide_77 : decode cX11_slide 77 = .ok (.invokestatic 379, 3) := by decide +kernel
theorem dX11_slide_80 : decode cX11_slide 80 = .ok (.aload_n 0, 1) := by decide +kernel
theorem dX11_slide_81 : decode cX11_slide 81 = .ok (.iload 4, 2) := by decide +kernel
theorem dX11_slide_83 : decode cX11_slide 83 = .ok (.invokevirtual 98, 3) := by decide +kernel
theorem dX11_slide_86 : decode cX11_slide 86 = .ok (.ireturn, 1) := by decide +kernel
theorem dX11_shelf_0 : decode cX11_shelf 0 = .ok (.iload_n 1, 1) := by decide +kernel
theorem dX11_shelf_1 : decode cX11_shelf 1 = .ok (.invokestatic 359, 3) := by decide +kernel
theorem dX11_shelf_4 : decode cX11_shelf 4 = .ok (.ifCond .eq 18, 3) := by decide +kernel
theorem dX11_shelf_7 : decode cX11_shelf 7 = .ok (.iload_n 2, 1) := by decide +kernel
theorem dX11_shelf_8 : decode cX11_shelf 8 = .ok (.ifCond .lt 14, 3) := by decide +kernel
theorem dX11_shelf_11 : decode cX11_shelf 11 = .ok (.iload_n 2, 1) := by decide +kernel
theorem dX11_shelf_12 : decode cX11_shelf 12 = .ok (.iconst 3, 1) := by decide +kernel
theorem dX11_shelf_13 : decode cX11_shelf 13 = .ok (.if_icmp .gt 9, 3) := by decide +kernel
theorem dX11_shelf_16 : decode cX11_shelf 16 = .ok (.iload_n 3, 1) := by decide +kernel
theorem dX11_shelf_17 : decode cX11_shelf 17 = .ok (.bipush 60, 2) := by decide +kernel
theorem dX11_shelf_19 : decode cX11_shelf 19 = .ok (.if_icmp .le 10, 3) := by decide +kernel
theorem dX11_shelf_22 : decode cX11_shelf 22 = .ok (.aload_n 0, 1) := by decide +kernel
theorem dX11_shelf_23 : decode cX11_shelf 23 = .ok (.bipush (-2), 2) := by decide +kernel
theorem dX11_shelf_25 : decode cX11_shelf 25 = .ok (.invokevirtual 87, 3) := by decide +kernel
theorem dX11_shelf_28 : decode cX11_shelf 28 = .ok (.ireturn, 1) := by decide +kernel
theorem dX11_shelf_29 : decode cX11_shelf 29 = .ok (.iload_n 3, 1) := by decide +kernel
theorem dX11_shelf_30 : decode cX11_shelf 30 = .ok (.ifCond .ge 10, 3) := by decide +kernel
theorem dX11_shelf_33 : decode cX11_shelf 33 = .ok (.aload_n 0, 1) := by decide +kernel
theorem dX11_shelf_34 : decode cX11_shelf 34 = .ok (.bipush (-15), 2) := by decide +kernel
theorem dX11_shelf_36 : decode cX11_shelf 36 = .ok (.invokevirtual 180, 3) := by decide +kernel
theorem dX11_shelf_39 : decode cX11_shelf 39 = .ok (.ireturn, 1) := by decide +kernel
theorem dX11_shelf_40 : decode cX11_shelf 40 = .ok (.aload_n 0, 1) := by decide +kernel
theorem dX11_shelf_41 : decode cX11_shelf 41 = .ok (.getfield 78, 3) := by decide +kernel
theorem dX11_shelf_44 : decode cX11_shelf 44 = .ok (.iload_n 1, 1) := by decide +kernel
theorem dX11_shelf_45 : decode cX11_shelf 45 = .ok (.new 72, 3) := by decide +kernel
theorem dX11_shelf_48 : decode cX11_shelf 48 = .ok (.dup, 1) := by decide +kernel
theorem dX11_shelf_49 : decode cX11_shelf 49 = .ok (.iload_n 2, 1) := by decide +kernel
theorem dX11_shelf_50 : decode cX11_shelf 50 = .ok (.iload_n 3, 1) := by decide +kernel
theorem dX11_shelf_51 : decode cX11_shelf 51 = .ok (.iconst 0, 1) := by decide +kernel
theorem dX11_shelf_52 : decode cX11_shelf 52 = .ok (.invokespecial 362, 3) := by decide +kernel
theorem dX11_shelf_55 : decode cX11_shelf 55 = .ok (.aastore, 1) := by decide +kernel
theorem dX11_shelf_56 : decode cX11_shelf 56 = .ok (.aload_n 0, 1) := by decide +kernel
theorem dX11_shelf_57 : decode cX11_shelf 57 = .ok (.iconst 1, 1) := by decide +kernel
theorem dX11_shelf_58 : decode cX11_shelf 58 = .ok (.invokevirtual 98, 3) := by decide +kernel
theorem dX11_shelf_61 : decode cX11_shelf 61 = .ok (.ireturn, 1) := by decide +kernel
theorem dX11_lay_0 : decode cX11_lay 0 = .ok (.iload_n 3, 1) := by decide +kernel
theorem dX11_lay_1 : decode cX11_lay 1 = .ok (.invokestatic 359, 3) := by decide +kernel
theorem dX11_lay_4 : decode cX11_lay 4 = .ok (.ifCond .ne 10, 3) := by decide +kernel
theorem dX11_lay_7 : decode cX11_lay 7 = .ok (.aload_n 0, 1) := by decide +kernel
theorem dX11_lay_8 : decode cX11_lay 8 = .ok (.bipush (-2), 2) := by decide +kernel
theorem dX11_lay_10 : decode cX11_lay 10 = .ok (.invokevirtual 87, 3) := by decide +kernel
theorem dX11_lay_13 : decode cX11_lay 13 = .ok (.ireturn, 1) := by decide +kernel
theorem dX11_lay_14 : decode cX11_lay 14 = .ok (.iload_n 2, 1) := by decide +kernel
theorem dX11_lay_15 : decode cX11_lay 15 = .ok (.ifCond .eq 19, 3) := by decide +kernel
theorem dX11_lay_18 : decode cX11_lay 18 = .ok (.aload_n 0, 1) := by decide +kernel
theorem dX11_lay_19 : decode cX11_lay 19 = .ok (.iload_n 1, 1) := by decide +kernel
theorem dX11_lay_20 : decode cX11_lay 20 = .ok (.aload_n 0, 1) := by decide +kernel
theorem dX11_lay_21 : decode cX11_lay 21 = .ok (.getfield 78, 3) := by decide +kernel
theorem dX11_lay_24 : decode cX11_lay 24 = .ok (.iload_n 3, 1) := by decide +kernel
theorem dX11_lay_25 : decode cX11_lay 25 = .ok (.aaload, 1) := by decide +kernel
theorem dX11_lay_26 : decode cX11_lay 26 = .ok (.iload 4, 2) := by decide +kernel
theorem dX11_lay_28 : decode cX11_lay 28 = .ok (.invokevirtual 385, 3) := by decide +kernel
theorem dX11_lay_31 : decode cX11_lay 31 = .ok (.goto 16, 3) := by decide +kernel
theorem dX11_lay_34 : decode cX11_lay 34 = .ok (.aload_n 0, 1) := by decide +kernel
theorem dX11_lay_35 : decode cX11_lay 35 = .ok (.iload_n 1, 1) := by decide +kernel
theorem dX11_lay_36 : decode cX11_lay 36 = .ok (.aload_n 0, 1) := by decide +kernel
theorem dX11_lay_37 : decode cX11_lay 37 = .ok (.getfield 78, 3) := by decide +kernel
theorem dX11_lay_40 : decode cX11_lay 40 = .ok (.iload_n 3, 1) := by decide +kernel
theorem dX11_lay_41 : decode cX11_lay 41 = .ok (.aaload, 1) := by decide +kernel
theorem dX11_lay_42 : decode cX11_lay 42 = .ok (.iload 4, 2) := by decide +kernel
theorem dX11_lay_44 : decode cX11_lay 44 = .ok (.invokevirtual 389, 3) := by decide +kernel
theorem dX11_lay_47 : decode cX11_lay 47 = .ok (.ireturn, 1) := by decide +kernel
theorem dX11_item_0 : decode cX11_item 0 = .ok (.iload_n 1, 1) := by decide +kernel
theorem dX11_item_1 : decode cX11_item 1 = .ok (.invokestatic 359, 3) := by decide +kernel
theorem dX11_item_4 : decode cX11_item 4 = .ok (.ifCond .ne 13, 3) := by decide +kernel
theorem dX11_item_7 : decode cX11_item 7 = .ok (.aload_n 0, 1) := by decide +kernel
theorem dX11_item_8 : decode cX11_item 8 = .ok (.bipush (-2), 2) := by decide +kernel
theorem dX11_item_10 : decode cX11_item 10 = .ok (.sipush (-2000), 3) := by decide +kernel
theorem dX11_item_13 : decode cX11_item 13 = .ok (.invokevirtual 203, 3) := by decide +kernel
theorem dX11_item_16 : decode cX11_item 16 = .ok (.ireturn, 1) := by decide +kernel
theorem dX11_item_17 : decode cX11_item 17 = .ok (.aload_n 0, 1) := by decide +kernel
theorem dX11_item_18 : decode cX11_item 18 = .ok (.getfield 78, 3) := by decide +kernel
theorem dX11_item_21 : decode cX11_item 21 = .ok (.iload_n 1, 1) := by decide +kernel
theorem dX11_item_22 : decode cX11_item 22 = .ok (.aaload, 1) := by decide +kernel
theorem dX11_item_23 : decode cX11_item 23 = .ok (.astore_n 3, 1) := by decide +kernel
theorem dX11_item_24 : decode cX11_item 24 = .ok (.aload_n 3, 1) := by decide +kernel
theorem dX11_item_25 : decode cX11_item 25 = .ok (.ifnonnull 13, 3) := by decide +kernel
theorem dX11_item_28 : decode cX11_item 28 = .ok (.aload_n 0, 1) := by decide +kernel
theorem dX11_item_29 : decode cX11_item 29 = .ok (.bipush (-11), 2) := by decide +kernel
theorem dX11_item_31 : decode cX11_item 31 = .ok (.sipush (-2001), 3) := by decide +kernel
theorem dX11_item_34 : decode cX11_item 34 = .ok (.invokevirtual 207, 3) := by decide +kernel
theorem dX11_item_37 : decode cX11_item 37 = .ok (.ireturn, 1) := by decide +kernel
theorem dX11_item_38 : decode cX11_item 38 = .ok (.aload_n 3, 1) := by decide +kernel
theorem dX11_item_39 : decode cX11_item 39 = .ok (.iload_n 2, 1) := by decide +kernel
theorem dX11_item_40 : decode cX11_item 40 = .ok (.invokevirtual 364, 3) := by decide +kernel
theorem dX11_item_43 : decode cX11_item 43 = .ok (.ifCond .ne 13, 3) := by decide +kernel
theorem dX11_item_46 : decode cX11_item 46 = .ok (.aload_n 0, 1) := by decide +kernel
theorem dX11_item_47 : decode cX11_item 47 = .ok (.bipush (-12), 2) := by decide +kernel
theorem dX11_item_49 : decode cX11_item 49 = .ok (.sipush (-2002), 3) := by decide +kernel
theorem dX11_item_52 : decode cX11_item 52 = .ok (.invokevirtual 207, 3) := by decide +kernel
theorem dX11_item_55 : decode cX11_item 55 = .ok (.ireturn, 1) := by decide +kernel
theorem dX11_item_56 : decode cX11_item 56 = .ok (.aload_n 0, 1) := by decide +kernel
theorem dX11_item_57 : decode cX11_item 57 = .ok (.aload_n 3, 1) := by decide +kernel
theorem dX11_item_58 : decode cX11_item 58 = .ok (.getfield 372, 3) := by decide +kernel
theorem dX11_item_61 : decode cX11_item 61 = .ok (.iload_n 2, 1) := by decide +kernel
theorem dX11_item_62 : decode cX11_item 62 = .ok (.iaload, 1) := by decide +kernel
theorem dX11_item_63 : decode cX11_item 63 = .ok (.invokevirtual 98, 3) := by decide +kernel
theorem dX11_item_66 : decode cX11_item 66 = .ok (.ireturn, 1) := by decide +kernel
theorem dX11_lift_0 : decode cX11_lift 0 = .ok (.iload_n 1, 1) := by decide +kernel
theorem dX11_lift_1 : decode cX11_lift 1 = .ok (.invokestatic 359, 3) := by decide +kernel
theorem dX11_lift_4 : decode cX11_lift 4 = .ok (.ifCond .ne 10, 3) := by decide +kernel
theorem dX11_lift_7 : decode cX11_lift 7 = .ok (.aload_n 0, 1) := by decide +kernel
theorem dX11_lift_8 : decode cX11_lift 8 = .ok (.bipush (-2), 2) := by decide +kernel
theorem dX11_lift_10 : decode cX11_lift 10 = .ok (.invokevirtual 87, 3) := by decide +kernel
theorem dX11_lift_13 : decode cX11_lift 13 = .ok (.ireturn, 1) := by decide +kernel
theorem dX11_lift_14 : decode cX11_lift 14 = .ok (.aload_n 0, 1) := by decide +kernel
theorem dX11_lift_15 : decode cX11_lift 15 = .ok (.getfield 78, 3) := by decide +kernel
theorem dX11_lift_18 : decode cX11_lift 18 = .ok (.iload_n 1, 1) := by decide +kernel
theorem dX11_lift_19 : decode cX11_lift 19 = .ok (.aaload, 1) := by decide +kernel
theorem dX11_lift_20 : decode cX11_lift 20 = .ok (.astore 4, 2) := by decide +kernel
theorem dX11_lift_22 : decode cX11_lift 22 = .ok (.aload 4, 2) := by decide +kernel
theorem dX11_lift_24 : decode cX11_lift 24 = .ok (.ifnonnull 10, 3) := by decide +kernel
theorem dX11_lift_27 : decode cX11_lift 27 = .ok (.aload_n 0, 1) := by decide +kernel
theorem dX11_lift_28 : decode cX11_lift 28 = .ok (.bipush (-11), 2) := by decide +kernel
theorem dX11_lift_30 : decode cX11_lift 30 = .ok (.invokevirtual 180, 3) := by decide +kernel
theorem dX11_lift_33 : decode cX11_lift 33 = .ok (.ireturn, 1) := by decide +kernel
theorem dX11_lift_34 : decode cX11_lift 34 = .ok (.aload 4, 2) := by decide +kernel
theorem dX11_lift_36 : decode cX11_lift 36 = .ok (.iload_n 2, 1) := by decide +kernel
theorem dX11_lift_37 : decode cX11_lift 37 = .ok (.invokevirtual 364, 3) := by decide +kernel
theorem dX11_lift_40 : decode cX11_lift 40 = .ok (.ifCond .ne 10, 3) := by decide +kernel
theorem dX11_lift_43 : decode cX11_lift 43 = .ok (.aload_n 0, 1) := by decide +kernel
theorem dX11_lift_44 : decode cX11_lift 44 = .ok (.bipush (-12), 2) := by decide +kernel
theorem dX11_lift_46 : decode cX11_lift 46 = .ok (.invokevirtual 180, 3) := by decide +kernel
theorem dX11_lift_49 : decode cX11_lift 49 = .ok (.ireturn, 1) := by decide +kernel
theorem dX11_lift_50 : decode cX11_lift 50 = .ok (.aload 4, 2) := by decide +kernel
theorem dX11_lift_52 : decode cX11_lift 52 = .ok (.getfield 372, 3) := by decide +kernel
theorem dX11_lift_55 : decode cX11_lift 55 = .ok (.iload_n 2, 1) := by decide +kernel
theorem dX11_lift_56 : decode cX11_lift 56 = .ok (.aload 4, 2) := by decide +kernel
theorem dX11_lift_58 : decode cX11_lift 58 = .ok (.getfield 367, 3) := by decide +kernel
theorem dX11_lift_61 : decode cX11_lift 61 = .ok (.iload_n 3, 1) := by decide +kernel
theorem dX11_lift_62 : decode cX11_lift 62 = .ok (.invokestatic 392, 3) := by decide +kernel
theorem dX11_lift_65 : decode cX11_lift 65 = .ok (.iastore, 1) := by decide +kernel
theorem dX11_lift_66 : decode cX11_lift 66 = .ok (.aload_n 0, 1) := by decide +kernel
theorem dX11_lift_67 : decode cX11_lift 67 = .ok (.iconst 1, 1) := by decide +kernel
theorem dX11_lift_68 : decode cX11_lift 68 = .ok (.invokevirtual 98, 3) := by decide +kernel
theorem dX11_lift_71 : decode cX11_lift 71 = .ok (.ireturn, 1) := by decide +kernel
theorem dX11_copy_0 : decode cX11_copy 0 = .ok (.iload_n 1, 1) := by decide +kernel
theorem dX11_copy_1 : decode cX11_copy 1 = .ok (.invokestatic 359, 3) := by decide +kernel
theorem dX11_copy_4 : decode cX11_copy 4 = .ok (.ifCond .eq 10, 3) := by decide +kernel
theorem dX11_copy_7 : decode cX11_copy 7 = .ok (.iload_n 3, 1) := by decide +kernel
theorem dX11_copy_8 : decode cX11_copy 8 = .ok (.invokestatic 359, 3) := by decide +kernel
theorem dX11_copy_11 : decode cX11_copy 11 = .ok (.ifCond .ne 10, 3) := by decide +kernel
theorem dX11_copy_14 : decode cX11_copy 14 = .ok (.aload_n 0, 1) := by decide +kernel
theorem dX11_copy_15 : decode cX11_copy 15 = .ok (.bipush (-2), 2) := by decide +kernel
theorem dX11_copy_17 : decode cX11_copy 17 = .ok (.invokevirtual 87, 3) := by decide +kernel
theorem dX11_copy_20 : decode cX11_copy 20 = .ok (.ireturn, 1) := by decide +kernel
theorem dX11_copy_21 : decode cX11_copy 21 = .ok (.aload_n 0, 1) := by decide +kernel
theorem dX11_copy_22 : decode cX11_copy 22 = .ok (.getfield 78, 3) := by decide +kernel
theorem dX11_copy_25 : decode cX11_copy 25 = .ok (.iload_n 1, 1) := by decide +kernel
theorem dX11_copy_26 : decode cX11_copy 26 = .ok (.aaload, 1) := by decide +kernel
theorem dX11_copy_27 : decode cX11_copy 27 = .ok (.astore 6, 2) := by decide +kernel
theorem dX11_copy_29 : decode cX11_copy 29 = .ok (.aload_n 0, 1) := by decide +kernel
theorem dX11_copy_30 : decode cX11_copy 30 = .ok (.getfield 78, 3) := by decide +kernel
theorem dX11_copy_33 : decode cX11_copy 33 = .ok (.iload_n 3, 1) := by decide +kernel
theorem dX11_copy_34 : decode cX11_copy 34 = .ok (.aaload, 1) := by decide +kernel
theorem dX11_copy_35 : decode cX11_copy 35 = .ok (.astore 7, 2) := by decide +kernel
theorem dX11_copy_37 : decode cX11_copy 37 = .ok (.aload 6, 2) := by decide +kernel
theorem dX11_copy_39 : decode cX11_copy 39 = .ok (.ifnull 8, 3) := by decide +kernel
theorem dX11_copy_42 : decode cX11_copy 42 = .ok (.aload 7, 2) := by decide +kernel
theorem dX11_copy_44 : decode cX11_copy 44 = .ok (.ifnonnull 10, 3) := by decide +kernel
theorem dX11_copy_47 : decode cX11_copy 47 = .ok (.aload_n 0, 1) := by decide +kernel
theorem dX11_copy_48 : decode cX11_copy 48 = .ok (.bipush (-11), 2) := by decide +kernel
theorem dX11_copy_50 : decode cX11_copy 50 = .ok (.invokevirtual 180, 3) := by decide +kernel
theorem dX11_copy_53 : decode cX11_copy 53 = .ok (.ireturn, 1) := by decide +kernel
theorem dX11_copy_54 : decode cX11_copy 54 = .ok (.aload 6, 2) := by decide +kernel
theorem dX11_copy_56 : decode cX11_copy 56 = .ok (.getfield 367, 3) := by decide +kernel
theorem dX11_copy_59 : decode cX11_copy 59 = .ok (.aload 7, 2) := by decide +kernel
theorem dX11_copy_61 : decode cX11_copy 61 = .ok (.getfield 367, 3) := by decide +kernel
theorem dX11_copy_64 : decode cX11_copy 64 = .ok (.if_icmp .eq 10, 3) := by decide +kernel
theorem dX11_copy_67 : decode cX11_copy 67 = .ok (.aload_n 0, 1) := by decide +kernel
theorem dX11_copy_68 : decode cX11_copy 68 = .ok (.bipush (-13), 2) := by decide +kernel
theorem dX11_copy_70 : decode cX11_copy 70 = .ok (.invokevirtual 180, 3) := by decide +kernel
theorem dX11_copy_73 : decode cX11_copy 73 = .ok (.ireturn, 1) := by decide +kernel
theorem dX11_copy_74 : decode cX11_copy 74 = .ok (.aload 6, 2) := by decide +kernel
theorem dX11_copy_76 : decode cX11_copy 76 = .ok (.iload_n 2, 1) := by decide +kernel
theorem dX11_copy_77 : decode cX11_copy 77 = .ok (.iload 5, 2) := by decide +kernel
theorem dX11_copy_79 : decode cX11_copy 79 = .ok (.invokevirtual 375, 3) := by decide +kernel
theorem dX11_copy_82 : decode cX11_copy 82 = .ok (.ifCond .eq 15, 3) := by decide +kernel
theorem dX11_copy_85 : decode cX11_copy 85 = .ok (.aload 7, 2) := by decide +kernel
theorem dX11_copy_87 : decode cX11_copy 87 = .ok (.iload 4, 2) := by decide +kernel
theorem dX11_copy_89 : decode cX11_copy 89 = .ok (.iload 5, 2) := by decide +kernel
theorem dX11_copy_91 : decode cX11_copy 91 = .ok (.invokevirtual 375, 3) := by decide +kernel
theorem dX11_copy_94 : decode cX11_copy 94 = .ok (.ifCond .ne 10, 3) := by decide +kernel
theorem dX11_copy_97 : decode cX11_copy 97 = .ok (.aload_n 0, 1) := by decide +kernel
theorem dX11_copy_98 : decode cX11_copy 98 = .ok (.bipush (-12), 2) := by decide +kernel
theorem dX11_copy_100 : decode cX11_copy 100 = .ok (.invokevirtual 180, 3) := by decide +kernel
theorem dX11_copy_103 : decode cX11_copy 103 = .ok (.ireturn, 1) := by decide +kernel
theorem dX11_copy_104 : decode cX11_copy 104 = .ok (.aload 6, 2) := by decide +kernel
theorem dX11_copy_106 : decode cX11_copy 106 = .ok (.getfield 372, 3) := by decide +kernel
theorem dX11_copy_109 : decode cX11_copy 109 = .ok (.iload_n 2, 1) := by decide +kernel
theorem dX11_copy_110 : decode cX11_copy 110 = .ok (.aload 7, 2) := by decide +kernel
theorem dX11_copy_112 : decode cX11_copy 112 = .ok (.getfield 372, 3) := by decide +kernel
theorem dX11_copy_115 : decode cX11_copy 115 = .ok (.iload 4, 2) := by decide +kernel
theorem dX11_copy_117 : decode cX11_copy 117 = .ok (.iload 5, 2) := by decide +kernel
theorem dX11_copy_119 : decode cX11_copy 119 = .ok (.invokestatic 379, 3) := by decide +kernel
theorem dX11_copy_122 : decode cX11_copy 122 = .ok (.aload_n 0, 1) := by decide +kernel
theorem dX11_copy_123 : decode cX11_copy 123 = .ok (.iload 5, 2) := by decide +kernel
theorem dX11_copy_125 : decode cX11_copy 125 = .ok (.invokevirtual 98, 3) := by decide +kernel
theorem dX11_copy_128 : decode cX11_copy 128 = .ok (.ireturn, 1) := by decide +kernel
theorem dX11_play_0 : decode cX11_play 0 = .ok (.aload_n 0, 1) := by decide +kernel
theorem dX11_play_1 : decode cX11_play 1 = .ok (.iload_n 2, 1) := by decide +kernel
theorem dX11_play_2 : decode cX11_play 2 = .ok (.invokevirtual 112, 3) := by decide +kernel
theorem dX11_play_5 : decode cX11_play 5 = .ok (.astore_n 3, 1) := by decide +kernel
theorem dX11_play_6 : decode cX11_play 6 = .ok (.aload_n 3, 1) := by decide +kernel
theorem dX11_play_7 : decode cX11_play 7 = .ok (.ifnull 10, 3) := by decide +kernel
theorem dX11_play_10 : decode cX11_play 10 = .ok (.iload_n 1, 1) := by decide +kernel
theorem dX11_play_11 : decode cX11_play 11 = .ok (.invokestatic 359, 3) := by decide +kernel
theorem dX11_play_14 : decode cX11_play 14 = .ok (.ifCond .ne 10, 3) := by decide +kernel
theorem dX11_play_17 : decode cX11_play 17 = .ok (.aload_n 0, 1) := by decide +kernel
theorem dX11_play_18 : decode cX11_play 18 = .ok (.bipush (-2), 2) := by decide +kernel
theorem dX11_play_20 : decode cX11_play 20 = .ok (.invokevirtual 87, 3) := by decide +kernel
theorem dX11_play_23 : decode cX11_play 23 = .ok (.ireturn, 1) := by decide +kernel
theorem dX11_play_24 : decode cX11_play 24 = .ok (.aload_n 0, 1) := by decide +kernel
theorem dX11_play_25 : decode cX11_play 25 = .ok (.getfield 78, 3) := by decide +kernel
theorem dX11_play_28 : decode cX11_play 28 = .ok (.iload_n 1, 1) := by decide +kernel
theorem dX11_play_29 : decode cX11_play 29 = .ok (.aaload, 1) := by decide +kernel
theorem dX11_play_30 : decode cX11_play 30 = .ok (.astore 4, 2) := by decide +kernel
theorem dX11_play_32 : decode cX11_play 32 = .ok (.iconst 0, 1) := by decide +kernel
theorem dX11_play_33 : decode cX11_play 33 = .ok (.istore 5, 2) := by decide +kernel
theorem dX11_play_35 : decode cX11_play 35 = .ok (.iconst 0, 1) := by decide +kernel
theorem dX11_play_36 : decode cX11_play 36 = .ok (.istore 6, 2) := by decide +kernel
theorem dX11_play_38 : decode cX11_play 38 = .ok (.iload 6, 2) := by decide +kernel
theorem dX11_play_40 : decode cX11_play 40 = .ok (.aload_n 3, 1) := by decide +kernel
theorem dX11_play_41 : decode cX11_play 41 = .ok (.getfield 116, 3) := by decide +kernel
theorem dX11_play_44 : decode cX11_play 44 = .ok (.if_icmp .ge 86, 3) := by decide +kernel
theorem dX11_play_47 : decode cX11_play 47 = .ok (.aload_n 3, 1) := by decide +kernel
theorem dX11_play_48 : decode cX11_play 48 = .ok (.getfield 224, 3) := by decide +kernel
theorem dX11_play_51 : decode cX11_play 51 = .ok (.iload 6, 2) := by decide +kernel
theorem dX11_play_53 : decode cX11_play 53 = .ok (.aaload, 1) := by decide +kernel
theorem dX11_play_54 : decode cX11_play 54 = .ok (.astore 7, 2) := by decide +kernel
theorem dX11_play_56 : decode cX11_play 56 = .ok (.aload 7, 2) := by decide +kernel
theorem dX11_play_58 : decode cX11_play 58 = .ok (.invokevirtual 193, 3) := by decide +kernel
theorem dX11_play_61 : decode cX11_play 61 = .ok (.ifCond .eq 63, 3) := by decide +kernel
theorem dX11_play_64 : decode cX11_play 64 = .ok (.aload 4, 2) := by decide +kernel
theorem dX11_play_66 : decode cX11_play 66 = .ok (.ifnonnull 12, 3) := by decide +kernel
theorem dX11_play_69 : decode cX11_play 69 = .ok (.aload_n 0, 1) := by decide +kernel
theorem dX11_play_70 : decode cX11_play 70 = .ok (.bipush (-11), 2) := by decide +kernel
theorem dX11_play_72 : decode cX11_play 72 = .ok (.iload 5, 2) := by decide +kernel
theorem dX11_play_74 : decode cX11_play 74 = .ok (.invokevirtual 207, 3) := by decide +kernel
theorem dX11_play_77 : decode cX11_play 77 = .ok (.ireturn, 1) := by decide +kernel
theorem dX11_play_78 : decode cX11_play 78 = .ok (.aload 4, 2) := by decide +kernel
theorem dX11_play_80 : decode cX11_play 80 = .ok (.iload 5, 2) := by decide +kernel
theorem dX11_play_82 : decode cX11_play 82 = .ok (.invokevirtual 364, 3) := by decide +kernel
theorem dX11_play_85 : decode cX11_play 85 = .ok (.ifCond .eq 27, 3) := by decide +kernel
theorem dX11_play_88 : decode cX11_play 88 = .ok (.aload 7, 2) := by decide +kernel
theorem dX11_play_90 : decode cX11_play 90 = .ok (.aload 4, 2) := by decide +kernel
theorem dX11_play_92 : decode cX11_play 92 = .ok (.getfield 372, 3) := by decide +kernel
theorem dX11_play_95 : decode cX11_play 95 = .ok (.iload 5, 2) := by decide +kernel
theorem dX11_play_97 : decode cX11_play 97 = .ok (.iaload, 1) := by decide +kernel
theorem dX11_play_98 : decode cX11_play 98 = .ok (.i2l, 1) := by decide +kernel
theorem dX11_play_99 : decode cX11_play 99 = .ok (.aload 7, 2) := by decide +kernel
theorem dX11_play_101 : decode cX11_play 101 = .ok (.invokevirtual 395, 3) := by decide +kernel
theorem dX11_play_104 : decode cX11_play 104 = .ok (.i2l, 1) := by decide +kernel
theorem dX11_play_105 : decode cX11_play 105 = .ok (.lsub, 1) := by decide +kernel
theorem dX11_play_106 : decode cX11_play 106 = .ok (.invokevirtual 221, 3) := by decide +kernel
theorem dX11_play_109 : decode cX11_play 109 = .ok (.ifCond .ne 12, 3) := by decide +kernel
theorem dX11_play_112 : decode cX11_play 112 = .ok (.aload_n 0, 1) := by decide +kernel
theorem dX11_play_113 : decode cX11_play 113 = .ok (.bipush (-12), 2) := by decide +kernel
theorem dX11_play_115 : decode cX11_play 115 = .ok (.iload 5, 2) := by decide +kernel
theorem dX11_play_117 : decode cX11_play 117 = .ok (.invokevirtual 207, 3) := by decide +kernel
theorem dX11_play_120 : decode cX11_play 120 = .ok (.ireturn, 1) := by decide +kernel
theorem dX11_play_121 : decode cX11_play 121 = .ok (.iinc 5 1, 3) := by decide +kernel
theorem dX11_play_124 : decode cX11_play 124 = .ok (.iinc 6 1, 3) := by decide +kernel
theorem dX11_play_127 : decode cX11_play 127 = .ok (.goto (-89), 3) := by decide +kernel
theorem dX11_play_130 : decode cX11_play 130 = .ok (.aload_n 0, 1) := by decide +kernel
theorem dX11_play_131 : decode cX11_play 131 = .ok (.iload 5, 2) := by decide +kernel
theorem dX11_play_133 : decode cX11_play 133 = .ok (.invokevirtual 98, 3) := by decide +kernel
theorem dX11_play_136 : decode cX11_play 136 = .ok (.ireturn, 1) := by decide +kernel
theorem dX11_failures_0 : decode cX11_failures 0 = .ok (.iload_n 1, 1) := by decide +kernel
theorem dX11_failures_1 : decode cX11_failures 1 = .ok (.ifCond .lt 8, 3) := by decide +kernel
theorem dX11_failures_4 : decode cX11_failures 4 = .ok (.iload_n 1, 1) := by decide +kernel
theorem dX11_failures_5 : decode cX11_failures 5 = .ok (.iconst 5, 1) := by decide +kernel
theorem dX11_failures_6 : decode cX11_failures 6 = .ok (.if_icmp .lt 8, 3) := by decide +kernel
theorem dX11_failures_9 : decode cX11_failures 9 = .ok (.bipush (-2), 2) := by decide +kernel
theorem dX11_failures_11 : decode cX11_failures 11 = .ok (.goto 9, 3) := by decide +kernel
theorem dX11_failures_14 : decode cX11_failures 14 = .ok (.aload_n 0, 1) := by decide +kernel
theorem dX11_failures_15 : decode cX11_failures 15 = .ok (.getfield 81, 3) := by decide +kernel
theorem dX11_failures_18 : decode cX11_failures 18 = .ok (.iload_n 1, 1) := by decide +kernel
theorem dX11_failures_19 : decode cX11_failures 19 = .ok (.iaload, 1) := by decide +kernel
theorem dX11_failures_20 : decode cX11_failures 20 = .ok (.ireturn, 1) := by decide +kernel
theorem dX11_status_0 : decode cX11_status 0 = .ok (.aload_n 0, 1) := by decide +kernel
theorem dX11_status_1 : decode cX11_status 1 = .ok (.getfield 84, 3) := by decide +kernel
theorem dX11_status_4 : decode cX11_status 4 = .ok (.ireturn, 1) := by decide +kernel
theorem dX11_trace_0 : decode cX11_trace 0 = .ok (.lconst 0, 1) := by decide +kernel
theorem dX11_trace_1 : decode cX11_trace 1 = .ok (.lstore_n 1, 1) := by decide +kernel
theorem dX11_trace_2 : decode cX11_trace 2 = .ok (.iconst 0, 1) := by decide +kernel
theorem dX11_trace_3 : decode cX11_trace 3 = .ok (.istore_n 3, 1) := by decide +kernel
theorem dX11_trace_4 : decode cX11_trace 4 = .ok (.iload_n 3, 1) := by decide +kernel
theorem dX11_trace_5 : decode cX11_trace 5 = .ok (.aload_n 0, 1) := by decide +kernel
theorem dX11_trace_6 : decode cX11_trace 6 = .ok (.getfield 15, 3) := by decide +kernel
theorem dX11_trace_9 : decode cX11_trace 9 = .ok (.if_icmp .ge 21, 3) := by decide +kernel
theorem dX11_trace_12 : decode cX11_trace 12 = .ok (.lload_n 1, 1) := by decide +kernel
theorem dX11_trace_13 : decode cX11_trace 13 = .ok (.aload_n 0, 1) := by decide +kernel
theorem dX11_trace_14 : decode cX11_trace 14 = .ok (.getfield 11, 3) := by decide +kernel
theorem dX11_trace_17 : decode cX11_trace 17 = .ok (.iload_n 3, 1) := by decide +kernel
theorem dX11_trace_18 : decode cX11_trace 18 = .ok (.aaload, 1) := by decide +kernel
theorem dX11_trace_19 : decode cX11_trace 19 = .ok (.getfield 398, 3) := by decide +kernel
theorem dX11_trace_22 : decode cX11_trace 22 = .ok (.ladd, 1) := by decide +kernel
theorem dX11_trace_23 : decode cX11_trace 23 = .ok (.lstore_n 1, 1) := by decide +kernel
theorem dX11_trace_24 : decode cX11_trace 24 = .ok (.iinc 3 1, 3) := by decide +kernel
theorem dX11_trace_27 : decode cX11_trace 27 = .ok (.goto (-23), 3) := by decide +kernel
theorem dX11_trace_30 : decode cX11_trace 30 = .ok (.lload_n 1, 1) := by decide +kernel
theorem dX11_trace_31 : decode cX11_trace 31 = .ok (.lreturn, 1) := by decide +kernel
theorem dX11_count_0 : decode cX11_count 0 = .ok (.iload_n 1, 1) := by decide +kernel
theorem dX11_count_1 : decode cX11_count 1 = .ok (.tableswitch 78 0 6 #[43, 48, 53, 58, 63, 68, 73], 43) := by decide +kernel
theorem dX11_count_44 : decode cX11_count 44 = .ok (.aload_n 0, 1) := by decide +kernel
theorem dX11_count_45 : decode cX11_count 45 = .ok (.getfield 15, 3) := by decide +kernel
theorem dX11_count_48 : decode cX11_count 48 = .ok (.ireturn, 1) := by decide +kernel
theorem dX11_count_49 : decode cX11_count 49 = .ok (.aload_n 0, 1) := by decide +kernel
theorem dX11_count_50 : decode cX11_count 50 = .ok (.getfield 29, 3) := by decide +kernel
theorem dX11_count_53 : decode cX11_count 53 = .ok (.ireturn, 1) := by decide +kernel
theorem dX11_count_54 : decode cX11_count 54 = .ok (.aload_n 0, 1) := by decide +kernel
theorem dX11_count_55 : decode cX11_count 55 = .ok (.invokevirtual 401, 3) := by decide +kernel
theorem dX11_count_58 : decode cX11_count 58 = .ok (.ireturn, 1) := by decide +kernel
theorem dX11_count_59 : decode cX11_count 59 = .ok (.aload_n 0, 1) := by decide +kernel
theorem dX11_count_60 : decode cX11_count 60 = .ok (.getfield 38, 3) := by decide +kernel
theorem dX11_count_63 : decode cX11_count 63 = .ok (.ireturn, 1) := by decide +kernel
theorem dX11_count_64 : decode cX11_count 64 = .ok (.aload_n 0, 1) := by decide +kernel
theorem dX11_count_65 : decode cX11_count 65 = .ok (.invokevirtual 404, 3) := by decide +kernel
theorem dX11_count_68 : decode cX11_count 68 = .ok (.ireturn, 1) := by decide +kernel
theorem dX11_count_69 : decode cX11_count 69 = .ok (.aload_n 0, 1) := by decide +kernel
theorem dX11_count_70 : decode cX11_count 70 = .ok (.invokevirtual 407, 3) := by decide +kernel
theorem dX11_count_73 : decode cX11_count 73 = .ok (.ireturn, 1) := by decide +kernel
theorem dX11_count_74 : decode cX11_count 74 = .ok (.aload_n 0, 1) := by decide +kernel
theorem dX11_count_75 : decode cX11_count 75 = .ok (.getfield 69, 3) := by decide +kernel
theorem dX11_count_78 : decode cX11_count 78 = .ok (.ireturn, 1) := by decide +kernel
theorem dX11_count_79 : decode cX11_count 79 = .ok (.bipush (-2), 2) := by decide +kernel
theorem dX11_count_81 : decode cX11_count 81 = .ok (.ireturn, 1) := by decide +kernel
theorem dX11_done_0 : decode cX11_done 0 = .ok (.aload_n 0, 1) := by decide +kernel
theorem dX11_done_1 : decode cX11_done 1 = .ok (.iconst 0, 1) := by decide +kernel
theorem dX11_done_2 : decode cX11_done 2 = .ok (.putfield 84, 3) := by decide +kernel
theorem dX11_done_5 : decode cX11_done 5 = .ok (.iload_n 1, 1) := by decide +kernel
theorem dX11_done_6 : decode cX11_done 6 = .ok (.ireturn, 1) := by decide +kernel
theorem dX11_doneLong_0 : decode cX11_doneLong 0 = .ok (.aload_n 0, 1) := by decide +kernel
theorem dX11_doneLong_1 : decode cX11_doneLong 1 = .ok (.iconst 0, 1) := by decide +kernel
theorem dX11_doneLong_2 : decode cX11_doneLong 2 = .ok (.putfield 84, 3) := by decide +kernel
theorem dX11_doneLong_5 : decode cX11_doneLong 5 = .ok (.lload_n 1, 1) := by decide +kernel
theorem dX11_doneLong_6 : decode cX11_doneLong 6 = .ok (.lreturn, 1) := by decide +kernel
theorem dX11_refuse_0 : decode cX11_refuse 0 = .ok (.aload_n 0, 1) := by decide +kernel
theorem dX11_refuse_1 : decode cX11_refuse 1 = .ok (.iload_n 1, 1) := by decide +kernel
theorem dX11_refuse_2 : decode cX11_refuse 2 = .ok (.iload_n 1, 1) := by decide +kernel
theorem dX11_refuse_3 : decode cX11_refuse 3 = .ok (.invokevirtual 203, 3) := by decide +kernel
theorem dX11_refuse_6 : decode cX11_refuse 6 = .ok (.ireturn, 1) := by decide +kernel
theorem dX11_refuseTelling_0 : decode cX11_refuseTelling 0 = .ok (.aload_n 0, 1) := by decide +kernel
theorem dX11_refuseTelling_1 : decode cX11_refuseTelling 1 = .ok (.iload_n 1, 1) := by decide +kernel
theorem dX11_refuseTelling_2 : decode cX11_refuseTelling 2 = .ok (.putfield 84, 3) := by decide +kernel
theorem dX11_refuseTelling_5 : decode cX11_refuseTelling 5 = .ok (.iload_n 2, 1) := by decide +kernel
theorem dX11_refuseTelling_6 : decode cX11_refuseTelling 6 = .ok (.ireturn, 1) := by decide +kernel
theorem dX11_fail_0 : decode cX11_fail 0 = .ok (.aload_n 0, 1) := by decide +kernel
theorem dX11_fail_1 : decode cX11_fail 1 = .ok (.iload_n 1, 1) := by decide +kernel
theorem dX11_fail_2 : decode cX11_fail 2 = .ok (.iload_n 1, 1) := by decide +kernel
theorem dX11_fail_3 : decode cX11_fail 3 = .ok (.invokevirtual 207, 3) := by decide +kernel
theorem dX11_fail_6 : decode cX11_fail 6 = .ok (.ireturn, 1) := by decide +kernel
theorem dX11_failTelling_0 : decode cX11_failTelling 0 = .ok (.bipush (-11), 2) := by decide +kernel
theorem dX11_failTelling_2 : decode cX11_failTelling 2 = .ok (.iload_n 1, 1) := by decide +kernel
theorem dX11_failTelling_3 : decode cX11_failTelling 3 = .ok (.isub, 1) := by decide +kernel
theorem dX11_failTelling_4 : decode cX11_failTelling 4 = .ok (.istore_n 3, 1) := by decide +kernel
theorem dX11_failTelling_5 : decode cX11_failTelling 5 = .ok (.iload_n 3, 1) := by decide +kernel
theorem dX11_failTelling_6 : decode cX11_failTelling 6 = .ok (.ifCond .lt 18, 3) := by decide +kernel
theorem dX11_failTelling_9 : decode cX11_failTelling 9 = .ok (.iload_n 3, 1) := by decide +kernel
theorem dX11_failTelling_10 : decode cX11_failTelling 10 = .ok (.iconst 5, 1) := by decide +kernel
theorem dX11_failTelling_11 : decode cX11_failTelling 11 = .ok (.if_icmp .ge 13, 3) := by decide +kernel
theorem dX11_failTelling_14 : decode cX11_failTelling 14 = .ok (.aload_n 0, 1) := by decide +kernel
theorem dX11_failTelling_15 : decode cX11_failTelling 15 = .ok (.getfield 81, 3) := by decide +kernel
theorem dX11_failTelling_18 : decode cX11_failTelling 18 = .ok (.iload_n 3, 1) := by decide +kernel
theorem dX11_failTelling_19 : decode cX11_failTelling 19 = .ok (.dup2, 1) := by decide +kernel
theorem dX11_failTelling_20 : decode cX11_failTelling 20 = .ok (.iaload, 1) := by decide +kernel
theorem dX11_failTelling_21 : decode cX11_failTelling 21 = .ok (.iconst 1, 1) := by decide +kernel
theorem dX11_failTelling_22 : decode cX11_failTelling 22 = .ok (.iadd, 1) := by decide +kernel
theorem dX11_failTelling_23 : decode cX11_failTelling 23 = .ok (.iastore, 1) := by decide +kernel
theorem dX11_failTelling_24 : decode cX11_failTelling 24 = .ok (.aload_n 0, 1) := by decide +kernel
theorem dX11_failTelling_25 : decode cX11_failTelling 25 = .ok (.iload_n 1, 1) := by decide +kernel
theorem dX11_failTelling_26 : decode cX11_failTelling 26 = .ok (.iload_n 2, 1) := by decide +kernel
theorem dX11_failTelling_27 : decode cX11_failTelling 27 = .ok (.invokevirtual 203, 3) := by decide +kernel
theorem dX11_failTelling_30 : decode cX11_failTelling 30 = .ok (.ireturn, 1) := by decide +kernel
theorem dX11_isNoteKind_0 : decode cX11_isNoteKind 0 = .ok (.iload_n 0, 1) := by decide +kernel
theorem dX11_isNoteKind_1 : decode cX11_isNoteKind 1 = .ok (.ifCond .eq 13, 3) := by decide +kernel
theorem dX11_isNoteKind_4 : decode cX11_isNoteKind 4 = .ok (.iload_n 0, 1) := by decide +kernel
theorem dX11_isNoteKind_5 : decode cX11_isNoteKind 5 = .ok (.iconst 1, 1) := by decide +kernel
theorem dX11_isNoteKind_6 : decode cX11_isNoteKind 6 = .ok (.if_icmp .eq 8, 3) := by decide +kernel
theorem dX11_isNoteKind_9 : decode cX11_isNoteKind 9 = .ok (.iload_n 0, 1) := by decide +kernel
theorem dX11_isNoteKind_10 : decode cX11_isNoteKind 10 = .ok (.iconst 2, 1) := by decide +kernel
theorem dX11_isNoteKind_11 : decode cX11_isNoteKind 11 = .ok (.if_icmp .ne 7, 3) := by decide +kernel
theorem dX11_isNoteKind_14 : decode cX11_isNoteKind 14 = .ok (.iconst 1, 1) := by decide +kernel
theorem dX11_isNoteKind_15 : decode cX11_isNoteKind 15 = .ok (.goto 4, 3) := by decide +kernel
theorem dX11_isNoteKind_18 : decode cX11_isNoteKind 18 = .ok (.iconst 0, 1) := by decide +kernel
theorem dX11_isNoteKind_19 : decode cX11_isNoteKind 19 = .ok (.ireturn, 1) := by decide +kernel
theorem dX11_isPitch_0 : decode cX11_isPitch 0 = .ok (.lload_n 0, 1) := by decide +kernel
theorem dX11_isPitch_1 : decode cX11_isPitch 1 = .ok (.lconst 0, 1) := by decide +kernel
theorem dX11_isPitch_2 : decode cX11_isPitch 2 = .ok (.lcmp, 1) := by decide +kernel
theorem dX11_isPitch_3 : decode cX11_isPitch 3 = .ok (.ifCond .lt 15, 3) := by decide +kernel
theorem dX11_isPitch_6 : decode cX11_isPitch 6 = .ok (.lload_n 0, 1) := by decide +kernel
theorem dX11_isPitch_7 : decode cX11_isPitch 7 = .ok (.ldc2_w 410, 3) := by decide +kernel
theorem dX11_isPitch_10 : decode cX11_isPitch 10 = .ok (.lcmp, 1) := by decide +kernel
theorem dX11_isPitch_11 : decode cX11_isPitch 11 = .ok (.ifCond .gt 7, 3) := by decide +kernel
theorem dX11_isPitch_14 : decode cX11_isPitch 14 = .ok (.iconst 1, 1) := by decide +kernel
theorem dX11_isPitch_15 : decode cX11_isPitch 15 = .ok (.goto 4, 3) := by decide +kernel
theorem dX11_isPitch_18 : decode cX11_isPitch 18 = .ok (.iconst 0, 1) := by decide +kernel
theorem dX11_isPitch_19 : decode cX11_isPitch 19 = .ok (.ireturn, 1) := by decide +kernel
theorem dX11_isValue_0 : decode cX11_isValue 0 = .ok (.iload_n 0, 1) := by decide +kernel
theorem dX11_isValue_1 : decode cX11_isValue 1 = .ok (.ifCond .lt 12, 3) := by decide +kernel
theorem dX11_isValue_4 : decode cX11_isValue 4 = .ok (.iload_n 0, 1) := by decide +kernel
theorem dX11_isValue_5 : decode cX11_isValue 5 = .ok (.iconst 5, 1) := by decide +kernel
theorem dX11_isValue_6 : decode cX11_isValue 6 = .ok (.if_icmp .gt 7, 3) := by decide +kernel
theorem dX11_isValue_9 : decode cX11_isValue 9 = .ok (.iconst 1, 1) := by decide +kernel
theorem dX11_isValue_10 : decode cX11_isValue 10 = .ok (.goto 4, 3) := by decide +kernel
theorem dX11_isValue_13 : decode cX11_isValue 13 = .ok (.iconst 0, 1) := by decide +kernel
theorem dX11_isValue_14 : decode cX11_isValue 14 = .ok (.ireturn, 1) := by decide +kernel
theorem dX11_isDots_0 : decode cX11_isDots 0 = .ok (.iload_n 0, 1) := by decide +kernel
theorem dX11_isDots_1 : decode cX11_isDots 1 = .ok (.ifCond .lt 12, 3) := by decide +kernel
theorem dX11_isDots_4 : decode cX11_isDots 4 = .ok (.iload_n 0, 1) := by decide +kernel
theorem dX11_isDots_5 : decode cX11_isDots 5 = .ok (.iconst 2, 1) := by decide +kernel
theorem dX11_isDots_6 : decode cX11_isDots 6 = .ok (.if_icmp .gt 7, 3) := by decide +kernel
theorem dX11_isDots_9 : decode cX11_isDots 9 = .ok (.iconst 1, 1) := by decide +kernel
theorem dX11_isDots_10 : decode cX11_isDots 10 = .ok (.goto 4, 3) := by decide +kernel
theorem dX11_isDots_13 : decode cX11_isDots 13 = .ok (.iconst 0, 1) := by decide +kernel
theorem dX11_isDots_14 : decode cX11_isDots 14 = .ok (.ireturn, 1) := by decide +kernel
theorem dX11_isTupletN_0 : decode cX11_isTupletN 0 = .ok (.iload_n 0, 1) := by decide +kernel
theorem dX11_isTupletN_1 : decode cX11_isTupletN 1 = .ok (.iconst 3, 1) := by decide +kernel
theorem dX11_isTupletN_2 : decode cX11_isTupletN 2 = .ok (.if_icmp .eq 20, 3) := by decide +kernel
theorem dX11_isTupletN_5 : decode cX11_isTupletN 5 = .ok (.iload_n 0, 1) := by decide +kernel
theorem dX11_isTupletN_6 : decode cX11_isTupletN 6 = .ok (.iconst 5, 1) := by decide +kernel
theorem dX11_isTupletN_7 : decode cX11_isTupletN 7 = .ok (.if_icmp .eq 15, 3) := by decide +kernel
theorem dX11_isTupletN_10 : decode cX11_isTupletN 10 = .ok (.iload_n 0, 1) := by decide +kernel
theorem dX11_isTupletN_11 : decode cX11_isTupletN 11 = .ok (.bipush 6, 2) := by decide +kernel
theorem dX11_isTupletN_13 : decode cX11_isTupletN 13 = .ok (.if_icmp .eq 9, 3) := by decide +kernel
theorem dX11_isTupletN_16 : decode cX11_isTupletN 16 = .ok (.iload_n 0, 1) := by decide +kernel
theorem dX11_isTupletN_17 : decode cX11_isTupletN 17 = .ok (.bipush 7, 2) := by decide +kernel
theorem dX11_isTupletN_19 : decode cX11_isTupletN 19 = .ok (.if_icmp .ne 7, 3) := by decide +kernel
theorem dX11_isTupletN_22 : decode cX11_isTupletN 22 = .ok (.iconst 1, 1) := by decide +kernel
theorem dX11_isTupletN_23 : decode cX11_isTupletN 23 = .ok (.goto 4, 3) := by decide +kernel
theorem dX11_isTupletN_26 : decode cX11_isTupletN 26 = .ok (.iconst 0, 1) := by decide +kernel
theorem dX11_isTupletN_27 : decode cX11_isTupletN 27 = .ok (.ireturn, 1) := by decide +kernel
theorem dX11_isRowNumber_0 : decode cX11_isRowNumber 0 = .ok (.iload_n 0, 1) := by decide +kernel
theorem dX11_isRowNumber_1 : decode cX11_isRowNumber 1 = .ok (.ifCond .lt 12, 3) := by decide +kernel
theorem dX11_isRowNumber_4 : decode cX11_isRowNumber 4 = .ok (.iload_n 0, 1) := by decide +kernel
theorem dX11_isRowNumber_5 : decode cX11_isRowNumber 5 = .ok (.iconst 4, 1) := by decide +kernel
theorem dX11_isRowNumber_6 : decode cX11_isRowNumber 6 = .ok (.if_icmp .ge 7, 3) := by decide +kernel
theorem dX11_isRowNumber_9 : decode cX11_isRowNumber 9 = .ok (.iconst 1, 1) := by decide +kernel
theorem dX11_isRowNumber_10 : decode cX11_isRowNumber 10 = .ok (.goto 4, 3) := by decide +kernel
theorem dX11_isRowNumber_13 : decode cX11_isRowNumber 13 = .ok (.iconst 0, 1) := by decide +kernel
theorem dX11_isRowNumber_14 : decode cX11_isRowNumber 14 = .ok (.ireturn, 1) := by decide +kernel
theorem dX11_isLineEnd_0 : decode cX11_isLineEnd 0 = .ok (.iload_n 1, 1) := by decide +kernel
theorem dX11_isLineEnd_1 : decode cX11_isLineEnd 1 = .ok (.iconst (-1), 1) := by decide +kernel
theorem dX11_isLineEnd_2 : decode cX11_isLineEnd 2 = .ok (.if_icmp .eq 11, 3) := by decide +kernel
theorem dX11_isLineEnd_5 : decode cX11_isLineEnd 5 = .ok (.aload_n 0, 1) := by decide +kernel
theorem dX11_isLineEnd_6 : decode cX11_isLineEnd 6 = .ok (.iload_n 1, 1) := by decide +kernel
theorem dX11_isLineEnd_7 : decode cX11_isLineEnd 7 = .ok (.invokevirtual 155, 3) := by decide +kernel
theorem dX11_isLineEnd_10 : decode cX11_isLineEnd 10 = .ok (.ifnull 7, 3) := by decide +kernel
theorem dX11_isLineEnd_13 : decode cX11_isLineEnd 13 = .ok (.iconst 1, 1) := by decide +kernel
theorem dX11_isLineEnd_14 : decode cX11_isLineEnd 14 = .ok (.goto 4, 3) := by decide +kernel
theorem dX11_isLineEnd_17 : decode cX11_isLineEnd 17 = .ok (.iconst 0, 1) := by decide +kernel
theorem dX11_isLineEnd_18 : decode cX11_isLineEnd 18 = .ok (.ireturn, 1) := by decide +kernel
theorem dX11_voiceOf_0 : decode cX11_voiceOf 0 = .ok (.iload_n 1, 1) := by decide +kernel
theorem dX11_voiceOf_1 : decode cX11_voiceOf 1 = .ok (.ifCond .lt 13, 3) := by decide +kernel
theorem dX11_voiceOf_4 : decode cX11_voiceOf 4 = .ok (.iload_n 1, 1) := by decide +kernel
theorem dX11_voiceOf_5 : decode cX11_voiceOf 5 = .ok (.aload_n 0, 1) := by decide +kernel
theorem dX11_voiceOf_6 : decode cX11_voiceOf 6 = .ok (.getfield 15, 3) := by decide +kernel
theorem dX11_voiceOf_9 : decode cX11_voiceOf 9 = .ok (.iconst 3, 1) := by decide +kernel
theorem dX11_voiceOf_10 : decode cX11_voiceOf 10 = .ok (.imul, 1) := by decide +kernel
theorem dX11_voiceOf_11 : decode cX11_voiceOf 11 = .ok (.if_icmp .lt 7, 3) := by decide +kernel
theorem dX11_voiceOf_14 : decode cX11_voiceOf 14 = .ok (.aconst_null, 1) := by decide +kernel
theorem dX11_voiceOf_15 : decode cX11_voiceOf 15 = .ok (.goto 9, 3) := by decide +kernel
theorem dX11_voiceOf_18 : decode cX11_voiceOf 18 = .ok (.aload_n 0, 1) := by decide +kernel
theorem dX11_voiceOf_19 : decode cX11_voiceOf 19 = .ok (.getfield 21, 3) := by decide +kernel
theorem dX11_voiceOf_22 : decode cX11_voiceOf 22 = .ok (.iload_n 1, 1) := by decide +kernel
theorem dX11_voiceOf_23 : decode cX11_voiceOf 23 = .ok (.aaload, 1) := by decide +kernel
theorem dX11_voiceOf_24 : decode cX11_voiceOf 24 = .ok (.areturn, 1) := by decide +kernel
theorem dX11_eventOf_0 : decode cX11_eventOf 0 = .ok (.iload_n 1, 1) := by decide +kernel
theorem dX11_eventOf_1 : decode cX11_eventOf 1 = .ok (.ifCond .lt 11, 3) := by decide +kernel
theorem dX11_eventOf_4 : decode cX11_eventOf 4 = .ok (.iload_n 1, 1) := by decide +kernel
theorem dX11_eventOf_5 : decode cX11_eventOf 5 = .ok (.aload_n 0, 1) := by decide +kernel
theorem dX11_eventOf_6 : decode cX11_eventOf 6 = .ok (.getfield 38, 3) := by decide +kernel
theorem dX11_eventOf_9 : decode cX11_eventOf 9 = .ok (.if_icmp .lt 7, 3) := by decide +kernel
theorem dX11_eventOf_12 : decode cX11_eventOf 12 = .ok (.aconst_null, 1) := by decide +kernel
theorem dX11_eventOf_13 : decode cX11_eventOf 13 = .ok (.goto 9, 3) := by decide +kernel
theorem dX11_eventOf_16 : decode cX11_eventOf 16 = .ok (.aload_n 0, 1) := by decide +kernel
theorem dX11_eventOf_17 : decode cX11_eventOf 17 = .ok (.getfield 34, 3) := by decide +kernel
theorem dX11_eventOf_20 : decode cX11_eventOf 20 = .ok (.iload_n 1, 1) := by decide +kernel
theorem dX11_eventOf_21 : decode cX11_eventOf 21 = .ok (.aaload, 1) := by decide +kernel
theorem dX11_eventOf_22 : decode cX11_eventOf 22 = .ok (.areturn, 1) := by decide +kernel
theorem dX11_tupletOf_0 : decode cX11_tupletOf 0 = .ok (.iload_n 1, 1) := by decide +kernel
theorem dX11_tupletOf_1 : decode cX11_tupletOf 1 = .ok (.ifCond .lt 11, 3) := by decide +kernel
theorem dX11_tupletOf_4 : decode cX11_tupletOf 4 = .ok (.iload_n 1, 1) := by decide +kernel
theorem dX11_tupletOf_5 : decode cX11_tupletOf 5 = .ok (.aload_n 0, 1) := by decide +kernel
theorem dX11_tupletOf_6 : decode cX11_tupletOf 6 = .ok (.getfield 47, 3) := by decide +kernel
theorem dX11_tupletOf_9 : decode cX11_tupletOf 9 = .ok (.if_icmp .lt 7, 3) := by decide +kernel
theorem dX11_tupletOf_12 : decode cX11_tupletOf 12 = .ok (.aconst_null, 1) := by decide +kernel
theorem dX11_tupletOf_13 : decode cX11_tupletOf 13 = .ok (.goto 9, 3) := by decide +kernel
theorem dX11_tupletOf_16 : decode cX11_tupletOf 16 = .ok (.aload_n 0, 1) := by decide +kernel
theorem dX11_tupletOf_17 : decode cX11_tupletOf 17 = .ok (.getfield 43, 3) := by decide +kernel
theorem dX11_tupletOf_20 : decode cX11_tupletOf 20 = .ok (.iload_n 1, 1) := by decide +kernel
theorem dX11_tupletOf_21 : decode cX11_tupletOf 21 = .ok (.aaload, 1) := by decide +kernel
theorem dX11_tupletOf_22 : decode cX11_tupletOf 22 = .ok (.areturn, 1) := by decide +kernel
theorem dX11_lineOf_0 : decode cX11_lineOf 0 = .ok (.iload_n 1, 1) := by decide +kernel
theorem dX11_lineOf_1 : decode cX11_lineOf 1 = .ok (.ifCond .lt 11, 3) := by decide +kernel
theorem dX11_lineOf_4 : decode cX11_lineOf 4 = .ok (.iload_n 1, 1) := by decide +kernel
theorem dX11_lineOf_5 : decode cX11_lineOf 5 = .ok (.aload_n 0, 1) := by decide +kernel
theorem dX11_lineOf_6 : decode cX11_lineOf 6 = .ok (.getfield 56, 3) := by decide +kernel
theorem dX11_lineOf_9 : decode cX11_lineOf 9 = .ok (.if_icmp .lt 7, 3) := by decide +kernel
theorem dX11_lineOf_12 : decode cX11_lineOf 12 = .ok (.aconst_null, 1) := by decide +kernel
theorem dX11_lineOf_13 : decode cX11_lineOf 13 = .ok (.goto 9, 3) := by decide +kernel
theorem dX11_lineOf_16 : decode cX11_lineOf 16 = .ok (.aload_n 0, 1) := by decide +kernel
theorem dX11_lineOf_17 : decode cX11_lineOf 17 = .ok (.getfield 52, 3) := by decide +kernel
theorem dX11_lineOf_20 : decode cX11_lineOf 20 = .ok (.iload_n 1, 1) := by decide +kernel
theorem dX11_lineOf_21 : decode cX11_lineOf 21 = .ok (.aaload, 1) := by decide +kernel
theorem dX11_lineOf_22 : decode cX11_lineOf 22 = .ok (.areturn, 1) := by decide +kernel
theorem dX11_eventsThere_0 : decode cX11_eventsThere 0 = .ok (.iconst 0, 1) := by decide +kernel
theorem dX11_eventsThere_1 : decode cX11_eventsThere 1 = .ok (.istore_n 1, 1) := by decide +kernel
theorem dX11_eventsThere_2 : decode cX11_eventsThere 2 = .ok (.iconst 0, 1) := by decide +kernel
theorem dX11_eventsThere_3 : decode cX11_eventsThere 3 = .ok (.istore_n 2, 1) := by decide +kernel
theorem dX11_eventsThere_4 : decode cX11_eventsThere 4 = .ok (.iload_n 2, 1) := by decide +kernel
theorem dX11_eventsThere_5 : decode cX11_eventsThere 5 = .ok (.aload_n 0, 1) := by decide +kernel
theorem dX11_eventsThere_6 : decode cX11_eventsThere 6 = .ok (.getfield 38, 3) := by decide +kernel
theorem dX11_eventsThere_9 : decode cX11_eventsThere 9 = .ok (.if_icmp .ge 26, 3) := by decide +kernel
theorem dX11_eventsThere_12 : decode cX11_eventsThere 12 = .ok (.iload_n 1, 1) := by decide +kernel
theorem dX11_eventsThere_13 : decode cX11_eventsThere 13 = .ok (.aload_n 0, 1) := by decide +kernel
theorem dX11_eventsThere_14 : decode cX11_eventsThere 14 = .ok (.getfield 34, 3) := by decide +kernel
theorem dX11_eventsThere_17 : decode cX11_eventsThere 17 = .ok (.iload_n 2, 1) := by decide +kernel
theorem dX11_eventsThere_18 : decode cX11_eventsThere 18 = .ok (.aaload, 1) := by decide +kernel
theorem dX11_eventsThere_19 : decode cX11_eventsThere 19 = .ok (.ifnonnull 7, 3) := by decide +kernel
theorem dX11_eventsThere_22 : decode cX11_eventsThere 22 = .ok (.iconst 0, 1) := by decide +kernel
theorem dX11_eventsThere_23 : decode cX11_eventsThere 23 = .ok (.goto 4, 3) := by decide +kernel
theorem dX11_eventsThere_26 : decode cX11_eventsThere 26 = .ok (.iconst 1, 1) := by decide +kernel
theorem dX11_eventsThere_27 : decode cX11_eventsThere 27 = .ok (.iadd, 1) := by decide +kernel
theorem dX11_eventsThere_28 : decode cX11_eventsThere 28 = .ok (.istore_n 1, 1) := by decide +kernel
theorem dX11_eventsThere_29 : decode cX11_eventsThere 29 = .ok (.iinc 2 1, 3) := by decide +kernel
theorem dX11_eventsThere_32 : decode cX11_eventsThere 32 = .ok (.goto (-28), 3) := by decide +kernel
theorem dX11_eventsThere_35 : decode cX11_eventsThere 35 = .ok (.iload_n 1, 1) := by decide +kernel
theorem dX11_eventsThere_36 : decode cX11_eventsThere 36 = .ok (.ireturn, 1) := by decide +kernel
theorem dX11_tupletsThere_0 : decode cX11_tupletsThere 0 = .ok (.iconst 0, 1) := by decide +kernel
theorem dX11_tupletsThere_1 : decode cX11_tupletsThere 1 = .ok (.istore_n 1, 1) := by decide +kernel
theorem dX11_tupletsThere_2 : decode cX11_tupletsThere 2 = .ok (.iconst 0, 1) := by decide +kernel
theorem dX11_tupletsThere_3 : decode cX11_tupletsThere 3 = .ok (.istore_n 2, 1) := by decide +kernel
theorem dX11_tupletsThere_4 : decode cX11_tupletsThere 4 = .ok (.iload_n 2, 1) := by decide +kernel
theorem dX11_tupletsThere_5 : decode cX11_tupletsThere 5 = .ok (.aload_n 0, 1) := by decide +kernel
theorem dX11_tupletsThere_6 : decode cX11_tupletsThere 6 = .ok (.getfield 47, 3) := by decide +kernel
theorem dX11_tupletsThere_9 : decode cX11_tupletsThere 9 = .ok (.if_icmp .ge 26, 3) := by decide +kernel
theorem dX11_tupletsThere_12 : decode cX11_tupletsThere 12 = .ok (.iload_n 1, 1) := by decide +kernel
theorem dX11_tupletsThere_13 : decode cX11_tupletsThere 13 = .ok (.aload_n 0, 1) := by decide +kernel
theorem dX11_tupletsThere_14 : decode cX11_tupletsThere 14 = .ok (.getfield 43, 3) := by decide +kernel
theorem dX11_tupletsThere_17 : decode cX11_tupletsThere 17 = .ok (.iload_n 2, 1) := by decide +kernel
theorem dX11_tupletsThere_18 : decode cX11_tupletsThere 18 = .ok (.aaload, 1) := by decide +kernel
theorem dX11_tupletsThere_19 : decode cX11_tupletsThere 19 = .ok (.ifnonnull 7, 3) := by decide +kernel
theorem dX11_tupletsThere_22 : decode cX11_tupletsThere 22 = .ok (.iconst 0, 1) := by decide +kernel
theorem dX11_tupletsThere_23 : decode cX11_tupletsThere 23 = .ok (.goto 4, 3) := by decide +kernel
theorem dX11_tupletsThere_26 : decode cX11_tupletsThere 26 = .ok (.iconst 1, 1) := by decide +kernel
theorem dX11_tupletsThere_27 : decode cX11_tupletsThere 27 = .ok (.iadd, 1) := by decide +kernel
theorem dX11_tupletsThere_28 : decode cX11_tupletsThere 28 = .ok (.istore_n 1, 1) := by decide +kernel
theorem dX11_tupletsThere_29 : decode cX11_tupletsThere 29 = .ok (.iinc 2 1, 3) := by decide +kernel
theorem dX11_tupletsThere_32 : decode cX11_tupletsThere 32 = .ok (.goto (-28), 3) := by decide +kernel
theorem dX11_tupletsThere_35 : decode cX11_tupletsThere 35 = .ok (.iload_n 1, 1) := by decide +kernel
theorem dX11_tupletsThere_36 : decode cX11_tupletsThere 36 = .ok (.ireturn, 1) := by decide +kernel
theorem dX11_linesThere_0 : decode cX11_linesThere 0 = .ok (.iconst 0, 1) := by decide +kernel
theorem dX11_linesThere_1 : decode cX11_linesThere 1 = .ok (.istore_n 1, 1) := by decide +kernel
theorem dX11_linesThere_2 : decode cX11_linesThere 2 = .ok (.iconst 0, 1) := by decide +kernel
theorem dX11_linesThere_3 : decode cX11_linesThere 3 = .ok (.istore_n 2, 1) := by decide +kernel
theorem dX11_linesThere_4 : decode cX11_linesThere 4 = .ok (.iload_n 2, 1) := by decide +kernel
theorem dX11_linesThere_5 : decode cX11_linesThere 5 = .ok (.aload_n 0, 1) := by decide +kernel
theorem dX11_linesThere_6 : decode cX11_linesThere 6 = .ok (.getfield 56, 3) := by decide +kernel
theorem dX11_linesThere_9 : decode cX11_linesThere 9 = .ok (.if_icmp .ge 26, 3) := by decide +kernel
theorem dX11_linesThere_12 : decode cX11_linesThere 12 = .ok (.iload_n 1, 1) := by decide +kernel
theorem dX11_linesThere_13 : decode cX11_linesThere 13 = .ok (.aload_n 0, 1) := by decide +kernel
theorem dX11_linesThere_14 : decode cX11_linesThere 14 = .ok (.getfield 52, 3) := by decide +kernel
theorem dX11_linesThere_17 : decode cX11_linesThere 17 = .ok (.iload_n 2, 1) := by decide +kernel
theorem dX11_linesThere_18 : decode cX11_linesThere 18 = .ok (.aaload, 1) := by decide +kernel
theorem dX11_linesThere_19 : decode cX11_linesThere 19 = .ok (.ifnonnull 7, 3) := by decide +kernel
theorem dX11_linesThere_22 : decode cX11_linesThere 22 = .ok (.iconst 0, 1) := by decide +kernel
theorem dX11_linesThere_23 : decode cX11_linesThere 23 = .ok (.goto 4, 3) := by decide +kernel
theorem dX11_linesThere_26 : decode cX11_linesThere 26 = .ok (.iconst 1, 1) := by decide +kernel
theorem dX11_linesThere_27 : decode cX11_linesThere 27 = .ok (.iadd, 1) := by decide +kernel
theorem dX11_linesThere_28 : decode cX11_linesThere 28 = .ok (.istore_n 1, 1) := by decide +kernel
theorem dX11_linesThere_29 : decode cX11_linesThere 29 = .ok (.iinc 2 1, 3) := by decide +kernel
theorem dX11_linesThere_32 : decode cX11_linesThere 32 = .ok (.goto (-28), 3) := by decide +kernel
theorem dX11_linesThere_35 : decode cX11_linesThere 35 = .ok (.iload_n 1, 1) := by decide +kernel
theorem dX11_linesThere_36 : decode cX11_linesThere 36 = .ok (.ireturn, 1) := by decide +kernel
theorem dX11_newInstrument_0 : decode cX11_newInstrument 0 = .ok (.iload_n 0, 1) := by decide +kernel
theorem dX11_newInstrument_1 : decode cX11_newInstrument 1 = .ok (.tableswitch 75 1 5 #[35, 43, 51, 59, 67], 35) := by decide +kernel
theorem dX11_newInstrument_36 : decode cX11_newInstrument 36 = .ok (.new 412, 3) := by decide +kernel
theorem dX11_newInstrument_39 : decode cX11_newInstrument 39 = .ok (.dup, 1) := by decide +kernel
theorem dX11_newInstrument_40 : decode cX11_newInstrument 40 = .ok (.invokespecial 414, 3) := by decide +kernel
theorem dX11_newInstrument_43 : decode cX11_newInstrument 43 = .ok (.areturn, 1) := by decide +kernel
theorem dX11_newInstrument_44 : decode cX11_newInstrument 44 = .ok (.new 415, 3) := by decide +kernel
theorem dX11_newInstrument_47 : decode cX11_newInstrument 47 = .ok (.dup, 1) := by decide +kernel
theorem dX11_newInstrument_48 : decode cX11_newInstrument 48 = .ok (.invokespecial 417, 3) := by decide +kernel
theorem dX11_newInstrument_51 : decode cX11_newInstrument 51 = .ok (.areturn, 1) := by decide +kernel
theorem dX11_newInstrument_52 : decode cX11_newInstrument 52 = .ok (.new 418, 3) := by decide +kernel
theorem dX11_newInstrument_55 : decode cX11_newInstrument 55 = .ok (.dup, 1) := by decide +kernel
theorem dX11_newInstrument_56 : decode cX11_newInstrument 56 = .ok (.invokespecial 420, 3) := by decide +kernel
theorem dX11_newInstrument_59 : decode cX11_newInstrument 59 = .ok (.areturn, 1) := by decide +kernel
theorem dX11_newInstrument_60 : decode cX11_newInstrument 60 = .ok (.new 421, 3) := by decide +kernel
theorem dX11_newInstrument_63 : decode cX11_newInstrument 63 = .ok (.dup, 1) := by decide +kernel
theorem dX11_newInstrument_64 : decode cX11_newInstrument 64 = .ok (.invokespecial 423, 3) := by decide +kernel
theorem dX11_newInstrument_67 : decode cX11_newInstrument 67 = .ok (.areturn, 1) := by decide +kernel
theorem dX11_newInstrument_68 : decode cX11_newInstrument 68 = .ok (.new 424, 3) := by decide +kernel
theorem dX11_newInstrument_71 : decode cX11_newInstrument 71 = .ok (.dup, 1) := by decide +kernel
theorem dX11_newInstrument_72 : decode cX11_newInstrument 72 = .ok (.invokespecial 426, 3) := by decide +kernel
theorem dX11_newInstrument_75 : decode cX11_newInstrument 75 = .ok (.areturn, 1) := by decide +kernel
theorem dX11_newInstrument_76 : decode cX11_newInstrument 76 = .ok (.new 9, 3) := by decide +kernel
theorem dX11_newInstrument_79 : decode cX11_newInstrument 79 = .ok (.dup, 1) := by decide +kernel
theorem dX11_newInstrument_80 : decode cX11_newInstrument 80 = .ok (.invokespecial 427, 3) := by decide +kernel
theorem dX11_newInstrument_83 : decode cX11_newInstrument 83 = .ok (.areturn, 1) := by decide +kernel
theorem dX11_raiseOf_0 : decode cX11_raiseOf 0 = .ok (.iconst 0, 1) := by decide +kernel
theorem dX11_raiseOf_1 : decode cX11_raiseOf 1 = .ok (.istore_n 2, 1) := by decide +kernel
theorem dX11_raiseOf_2 : decode cX11_raiseOf 2 = .ok (.iconst 0, 1) := by decide +kernel
theorem dX11_raiseOf_3 : decode cX11_raiseOf 3 = .ok (.istore_n 3, 1) := by decide +kernel
theorem dX11_raiseOf_4 : decode cX11_raiseOf 4 = .ok (.iload_n 3, 1) := by decide +kernel
theorem dX11_raiseOf_5 : decode cX11_raiseOf 5 = .ok (.aload_n 0, 1) := by decide +kernel
theorem dX11_raiseOf_6 : decode cX11_raiseOf 6 = .ok (.getfield 56, 3) := by decide +kernel
theorem dX11_raiseOf_9 : decode cX11_raiseOf 9 = .ok (.if_icmp .ge 34, 3) := by decide +kernel
theorem dX11_raiseOf_12 : decode cX11_raiseOf 12 = .ok (.aload_n 0, 1) := by decide +kernel
theorem dX11_raiseOf_13 : decode cX11_raiseOf 13 = .ok (.getfield 52, 3) := by decide +kernel
theorem dX11_raiseOf_16 : decode cX11_raiseOf 16 = .ok (.iload_n 3, 1) := by decide +kernel
theorem dX11_raiseOf_17 : decode cX11_raiseOf 17 = .ok (.aaload, 1) := by decide +kernel
theorem dX11_raiseOf_18 : decode cX11_raiseOf 18 = .ok (.ifnull 19, 3) := by decide +kernel
theorem dX11_raiseOf_21 : decode cX11_raiseOf 21 = .ok (.aload_n 0, 1) := by decide +kernel
theorem dX11_raiseOf_22 : decode cX11_raiseOf 22 = .ok (.getfield 52, 3) := by decide +kernel
theorem dX11_raiseOf_25 : decode cX11_raiseOf 25 = .ok (.iload_n 3, 1) := by decide +kernel
theorem dX11_raiseOf_26 : decode cX11_raiseOf 26 = .ok (.aaload, 1) := by decide +kernel
theorem dX11_raiseOf_27 : decode cX11_raiseOf 27 = .ok (.aload_n 1, 1) := by decide +kernel
theorem dX11_raiseOf_28 : decode cX11_raiseOf 28 = .ok (.invokevirtual 428, 3) := by decide +kernel
theorem dX11_raiseOf_31 : decode cX11_raiseOf 31 = .ok (.ifCond .eq 6, 3) := by decide +kernel
theorem dX11_raiseOf_34 : decode cX11_raiseOf 34 = .ok (.iinc 2 12, 3) := by decide +kernel
theorem dX11_raiseOf_37 : decode cX11_raiseOf 37 = .ok (.iinc 3 1, 3) := by decide +kernel
theorem dX11_raiseOf_40 : decode cX11_raiseOf 40 = .ok (.goto (-36), 3) := by decide +kernel
theorem dX11_raiseOf_43 : decode cX11_raiseOf 43 = .ok (.iload_n 2, 1) := by decide +kernel
theorem dX11_raiseOf_44 : decode cX11_raiseOf 44 = .ok (.ireturn, 1) := by decide +kernel
theorem dX11_layOut_0 : decode cX11_layOut 0 = .ok (.aload_n 1, 1) := by decide +kernel
theorem dX11_layOut_1 : decode cX11_layOut 1 = .ok (.invokevirtual 432, 3) := by decide +kernel
theorem dX11_layOut_4 : decode cX11_layOut 4 = .ok (.iconst 0, 1) := by decide +kernel
theorem dX11_layOut_5 : decode cX11_layOut 5 = .ok (.istore_n 2, 1) := by decide +kernel
theorem dX11_layOut_6 : decode cX11_layOut 6 = .ok (.iload_n 2, 1) := by decide +kernel
theorem dX11_layOut_7 : decode cX11_layOut 7 = .ok (.aload_n 0, 1) := by decide +kernel
theorem dX11_layOut_8 : decode cX11_layOut 8 = .ok (.getfield 47, 3) := by decide +kernel
theorem dX11_layOut_11 : decode cX11_layOut 11 = .ok (.if_icmp .ge 40, 3) := by decide +kernel
theorem dX11_layOut_14 : decode cX11_layOut 14 = .ok (.aload_n 0, 1) := by decide +kernel
theorem dX11_layOut_15 : decode cX11_layOut 15 = .ok (.getfield 43, 3) := by decide +kernel
theorem dX11_layOut_18 : decode cX11_layOut 18 = .ok (.iload_n 2, 1) := by decide +kernel
theorem dX11_layOut_19 : decode cX11_layOut 19 = .ok (.aaload, 1) := by decide +kernel
theorem dX11_layOut_20 : decode cX11_layOut 20 = .ok (.ifnull 25, 3) := by decide +kernel
theorem dX11_layOut_23 : decode cX11_layOut 23 = .ok (.aload_n 0, 1) := by decide +kernel
theorem dX11_layOut_24 : decode cX11_layOut 24 = .ok (.getfield 43, 3) := by decide +kernel
theorem dX11_layOut_27 : decode cX11_layOut 27 = .ok (.iload_n 2, 1) := by decide +kernel
theorem dX11_layOut_28 : decode cX11_layOut 28 = .ok (.aaload, 1) := by decide +kernel
theorem dX11_layOut_29 : decode cX11_layOut 29 = .ok (.getfield 140, 3) := by decide +kernel
theorem dX11_layOut_32 : decode cX11_layOut 32 = .ok (.aload_n 1, 1) := by decide +kernel
theorem dX11_layOut_33 : decode cX11_layOut 33 = .ok (.if_acmp .ne 12, 3) := by decide +kernel
theorem dX11_layOut_36 : decode cX11_layOut 36 = .ok (.aload_n 0, 1) := by decide +kernel
theorem dX11_layOut_37 : decode cX11_layOut 37 = .ok (.getfield 43, 3) := by decide +kernel
theorem dX11_layOut_40 : decode cX11_layOut 40 = .ok (.iload_n 2, 1) := by decide +kernel
theorem dX11_layOut_41 : decode cX11_layOut 41 = .ok (.aaload, 1) := by decide +kernel
theorem dX11_layOut_42 : decode cX11_layOut 42 = .ok (.invokevirtual 435, 3) := by decide +kernel
theorem dX11_layOut_45 : decode cX11_layOut 45 = .ok (.iinc 2 1, 3) := by decide +kernel
theorem dX11_layOut_48 : decode cX11_layOut 48 = .ok (.goto (-42), 3) := by decide +kernel
theorem dX11_layOut_51 : decode cX11_layOut 51 = .ok (.aload_n 1, 1) := by decide +kernel
theorem dX11_layOut_52 : decode cX11_layOut 52 = .ok (.invokevirtual 438, 3) := by decide +kernel
theorem dX11_layOut_55 : decode cX11_layOut 55 = .ok (.return_, 1) := by decide +kernel
theorem dX11_barBegin_0 : decode cX11_barBegin 0 = .ok (.iload_n 1, 1) := by decide +kernel
theorem dX11_barBegin_1 : decode cX11_barBegin 1 = .ok (.iconst 1, 1) := by decide +kernel
theorem dX11_barBegin_2 : decode cX11_barBegin 2 = .ok (.if_icmp .lt 11, 3) := by decide +kernel
theorem dX11_barBegin_5 : decode cX11_barBegin 5 = .ok (.iload_n 1, 1) := by decide +kernel
theorem dX11_barBegin_6 : decode cX11_barBegin 6 = .ok (.aload_n 0, 1) := by decide +kernel
theorem dX11_barBegin_7 : decode cX11_barBegin 7 = .ok (.getfield 29, 3) := by decide +kernel
theorem dX11_barBegin_10 : decode cX11_barBegin 10 = .ok (.if_icmp .le 7, 3) := by decide +kernel
theorem dX11_barBegin_13 : decode cX11_barBegin 13 = .ok (.lconst 0, 1) := by decide +kernel
theorem dX11_barBegin_14 : decode cX11_barBegin 14 = .ok (.goto 11, 3) := by decide +kernel
theorem dX11_barBegin_17 : decode cX11_barBegin 17 = .ok (.aload_n 0, 1) := by decide +kernel
theorem dX11_barBegin_18 : decode cX11_barBegin 18 = .ok (.getfield 25, 3) := by decide +kernel
theorem dX11_barBegin_21 : decode cX11_barBegin 21 = .ok (.iload_n 1, 1) := by decide +kernel
theorem dX11_barBegin_22 : decode cX11_barBegin 22 = .ok (.iconst 1, 1) := by decide +kernel
theorem dX11_barBegin_23 : decode cX11_barBegin 23 = .ok (.isub, 1) := by decide +kernel
theorem dX11_barBegin_24 : decode cX11_barBegin 24 = .ok (.laload, 1) := by decide +kernel
theorem dX11_barBegin_25 : decode cX11_barBegin 25 = .ok (.lreturn, 1) := by decide +kernel
theorem dX11_barAround_0 : decode cX11_barAround 0 = .ok (.iconst 0, 1) := by decide +kernel
theorem dX11_barAround_1 : decode cX11_barAround 1 = .ok (.istore_n 3, 1) := by decide +kernel
theorem dX11_barAround_2 : decode cX11_barAround 2 = .ok (.iload_n 3, 1) := by decide +kernel
theorem dX11_barAround_3 : decode cX11_barAround 3 = .ok (.aload_n 0, 1) := by decide +kernel
theorem dX11_barAround_4 : decode cX11_barAround 4 = .ok (.getfield 29, 3) := by decide +kernel
theorem dX11_barAround_7 : decode cX11_barAround 7 = .ok (.if_icmp .ge 22, 3) := by decide +kernel
theorem dX11_barAround_10 : decode cX11_barAround 10 = .ok (.lload_n 1, 1) := by decide +kernel
theorem dX11_barAround_11 : decode cX11_barAround 11 = .ok (.aload_n 0, 1) := by decide +kernel
theorem dX11_barAround_12 : decode cX11_barAround 12 = .ok (.getfield 25, 3) := by decide +kernel
theorem dX11_barAround_15 : decode cX11_barAround 15 = .ok (.iload_n 3, 1) := by decide +kernel
theorem dX11_barAround_16 : decode cX11_barAround 16 = .ok (.laload, 1) := by decide +kernel
theorem dX11_barAround_17 : decode cX11_barAround 17 = .ok (.lcmp, 1) := by decide +kernel
theorem dX11_barAround_18 : decode cX11_barAround 18 = .ok (.ifCond .ge 5, 3) := by decide +kernel
theorem dX11_barAround_21 : decode cX11_barAround 21 = .ok (.iload_n 3, 1) := by decide +kernel
theorem dX11_barAround_22 : decode cX11_barAround 22 = .ok (.ireturn, 1) := by decide +kernel
theorem dX11_barAround_23 : decode cX11_barAround 23 = .ok (.iinc 3 1, 3) := by decide +kernel
theorem dX11_barAround_26 : decode cX11_barAround 26 = .ok (.goto (-24), 3) := by decide +kernel
theorem dX11_barAround_29 : decode cX11_barAround 29 = .ok (.iconst (-1), 1) := by decide +kernel
theorem dX11_barAround_30 : decode cX11_barAround 30 = .ok (.ireturn, 1) := by decide +kernel
theorem dX11_sinceBar_0 : decode cX11_sinceBar 0 = .ok (.aload_n 0, 1) := by decide +kernel
theorem dX11_sinceBar_1 : decode cX11_sinceBar 1 = .ok (.lload_n 1, 1) := by decide +kernel
theorem dX11_sinceBar_2 : decode cX11_sinceBar 2 = .ok (.invokevirtual 244, 3) := by decide +kernel
theorem dX11_sinceBar_5 : decode cX11_sinceBar 5 = .ok (.istore_n 3, 1) := by decide +kernel
theorem dX11_sinceBar_6 : decode cX11_sinceBar 6 = .ok (.iload_n 3, 1) := by decide +kernel
theorem dX11_sinceBar_7 : decode cX11_sinceBar 7 = .ok (.iconst (-1), 1) := by decide +kernel
theorem dX11_sinceBar_8 : decode cX11_sinceBar 8 = .ok (.if_icmp .ne 7, 3) := by decide +kernel
theorem dX11_sinceBar_11 : decode cX11_sinceBar 11 = .ok (.lconst 0, 1) := by decide +kernel
theorem dX11_sinceBar_12 : decode cX11_sinceBar 12 = .ok (.goto 10, 3) := by decide +kernel
theorem dX11_sinceBar_15 : decode cX11_sinceBar 15 = .ok (.lload_n 1, 1) := by decide +kernel
theorem dX11_sinceBar_16 : decode cX11_sinceBar 16 = .ok (.aload_n 0, 1) := by decide +kernel
theorem dX11_sinceBar_17 : decode cX11_sinceBar 17 = .ok (.iload_n 3, 1) := by decide +kernel
theorem dX11_sinceBar_18 : decode cX11_sinceBar 18 = .ok (.invokevirtual 106, 3) := by decide +kernel
theorem dX11_sinceBar_21 : decode cX11_sinceBar 21 = .ok (.lsub, 1) := by decide +kernel
theorem dX11_sinceBar_22 : decode cX11_sinceBar 22 = .ok (.lreturn, 1) := by decide +kernel
theorem dX11_upOf_0 : decode cX11_upOf 0 = .ok (.lload_n 0, 1) := by decide +kernel
theorem dX11_upOf_1 : decode cX11_upOf 1 = .ok (.lload_n 0, 1) := by decide +kernel
theorem dX11_upOf_2 : decode cX11_upOf 2 = .ok (.invokestatic 441, 3) := by decide +kernel
theorem dX11_upOf_5 : decode cX11_upOf 5 = .ok (.ldiv, 1) := by decide +kernel
theorem dX11_upOf_6 : decode cX11_upOf 6 = .ok (.lreturn, 1) := by decide +kernel
theorem dX11_downOf_0 : decode cX11_downOf 0 = .ok (.ldc2_w 110, 3) := by decide +kernel
theorem dX11_downOf_3 : decode cX11_downOf 3 = .ok (.lload_n 0, 1) := by decide +kernel
theorem dX11_downOf_4 : decode cX11_downOf 4 = .ok (.invokestatic 441, 3) := by decide +kernel
theorem dX11_downOf_7 : decode cX11_downOf 7 = .ok (.ldiv, 1) := by decide +kernel
theorem dX11_downOf_8 : decode cX11_downOf 8 = .ok (.lreturn, 1) := by decide +kernel
theorem dX11_divisorOf_0 : decode cX11_divisorOf 0 = .ok (.ldc2_w 110, 3) := by decide +kernel
theorem dX11_divisorOf_3 : decode cX11_divisorOf 3 = .ok (.lstore_n 2, 1) := by decide +kernel
theorem dX11_divisorOf_4 : decode cX11_divisorOf 4 = .ok (.lload_n 0, 1) := by decide +kernel
theorem dX11_divisorOf_5 : decode cX11_divisorOf 5 = .ok (.lstore 4, 2) := by decide +kernel
theorem dX11_divisorOf_7 : decode cX11_divisorOf 7 = .ok (.iconst 0, 1) := by decide +kernel
theorem dX11_divisorOf_8 : decode cX11_divisorOf 8 = .ok (.istore 6, 2) := by decide +kernel
theorem dX11_divisorOf_10 : decode cX11_divisorOf 10 = .ok (.iload 6, 2) := by decide +kernel
theorem dX11_divisorOf_12 : decode cX11_divisorOf 12 = .ok (.sipush 200, 3) := by decide +kernel
theorem dX11_divisorOf_15 : decode cX11_divisorOf 15 = .ok (.if_icmp .ge 29, 3) := by decide +kernel
theorem dX11_divisorOf_18 : decode cX11_divisorOf 18 = .ok (.lload 4, 2) := by decide +kernel
theorem dX11_divisorOf_20 : decode cX11_divisorOf 20 = .ok (.lconst 0, 1) := by decide +kernel
theorem dX11_divisorOf_21 : decode cX11_divisorOf 21 = .ok (.lcmp, 1) := by decide +kernel
theorem dX11_divisorOf_22 : decode cX11_divisorOf 22 = .ok (.ifCond .eq 22, 3) := by decide +kernel
theorem dX11_divisorOf_25 : decode cX11_divisorOf 25 = .ok (.lload_n 2, 1) := by decide +kernel
theorem dX11_divisorOf_26 : decode cX11_divisorOf 26 = .ok (.lload 4, 2) := by decide +kernel
theorem dX11_divisorOf_28 : decode cX11_divisorOf 28 = .ok (.lrem, 1) := by decide +kernel
theorem dX11_divisorOf_29 : decode cX11_divisorOf 29 = .ok (.lstore 7, 2) := by decide +kernel
theorem dX11_divisorOf_31 : decode cX11_divisorOf 31 = .ok (.lload 4, 2) := by decide +kernel
theorem dX11_divisorOf_33 : decode cX11_divisorOf 33 = .ok (.lstore_n 2, 1) := by decide +kernel
theorem dX11_divisorOf_34 : decode cX11_divisorOf 34 = .ok (.lload 7, 2) := by decide +kernel
theorem dX11_divisorOf_36 : decode cX11_divisorOf 36 = .ok (.lstore 4, 2) := by decide +kernel
theorem dX11_divisorOf_38 : decode cX11_divisorOf 38 = .ok (.iinc 6 1, 3) := by decide +kernel
theorem dX11_divisorOf_41 : decode cX11_divisorOf 41 = .ok (.goto (-31), 3) := by decide +kernel
theorem dX11_divisorOf_44 : decode cX11_divisorOf 44 = .ok (.lconst 1, 1) := by decide +kernel
theorem dX11_divisorOf_45 : decode cX11_divisorOf 45 = .ok (.lload_n 2, 1) := by decide +kernel
theorem dX11_divisorOf_46 : decode cX11_divisorOf 46 = .ok (.invokestatic 444, 3) := by decide +kernel
theorem dX11_divisorOf_49 : decode cX11_divisorOf 49 = .ok (.lreturn, 1) := by decide +kernel
theorem dX11_dropFromTuplets_0 : decode cX11_dropFromTuplets 0 = .ok (.iconst 0, 1) := by decide +kernel
theorem dX11_dropFromTuplets_1 : decode cX11_dropFromTuplets 1 = .ok (.istore_n 3, 1) := by decide +kernel
theorem dX11_dropFromTuplets_2 : decode cX11_dropFromTuplets 2 = .ok (.iload_n 3, 1) := by decide +kernel
theorem dX11_dropFromTuplets_3 : decode cX11_dropFromTuplets 3 = .ok (.aload_n 0, 1) := by decide +kernel
theorem dX11_dropFromTuplets_4 : decode cX11_dropFromTuplets 4 = .ok (.getfield 47, 3) := by decide +kernel
theorem dX11_dropFromTuplets_7 : decode cX11_dropFromTuplets 7 = .ok (.if_icmp .ge 52, 3) := by decide +kernel
theorem dX11_dropFromTuplets_10 : decode cX11_dropFromTuplets 10 = .ok (.aload_n 0, 1) := by decide +kernel
theorem dX11_dropFromTuplets_11 : decode cX11_dropFromTuplets 11 = .ok (.getfield 43, 3) := by decide +kernel
theorem dX11_dropFromTuplets_14 : decode cX11_dropFromTuplets 14 = .ok (.iload_n 3, 1) := by decide +kernel
theorem dX11_dropFromTuplets_15 : decode cX11_dropFromTuplets 15 = .ok (.aaload, 1) := by decide +kernel
theorem dX11_dropFromTuplets_16 : decode cX11_dropFromTuplets 16 = .ok (.astore 4, 2) := by decide +kernel
theorem dX11_dropFromTuplets_18 : decode cX11_dropFromTuplets 18 = .ok (.aload 4, 2) := by decide +kernel
theorem dX11_dropFromTuplets_20 : decode cX11_dropFromTuplets 20 = .ok (.ifnull 33, 3) := by decide +kernel
theorem dX11_dropFromTuplets_23 : decode cX11_dropFromTuplets 23 = .ok (.aload 4, 2) := by decide +kernel
theorem dX11_dropFromTuplets_25 : decode cX11_dropFromTuplets 25 = .ok (.getfield 140, 3) := by decide +kernel
theorem dX11_dropFromTuplets_28 : decode cX11_dropFromTuplets 28 = .ok (.aload_n 1, 1) := by decide +kernel
theorem dX11_dropFromTuplets_29 : decode cX11_dropFromTuplets 29 = .ok (.if_acmp .ne 24, 3) := by decide +kernel
theorem dX11_dropFromTuplets_32 : decode cX11_dropFromTuplets 32 = .ok (.aload 4, 2) := by decide +kernel
theorem dX11_dropFromTuplets_34 : decode cX11_dropFromTuplets 34 = .ok (.iload_n 2, 1) := by decide +kernel
theorem dX11_dropFromTuplets_35 : decode cX11_dropFromTuplets 35 = .ok (.invokevirtual 448, 3) := by decide +kernel
theorem dX11_dropFromTuplets_38 : decode cX11_dropFromTuplets 38 = .ok (.aload 4, 2) := by decide +kernel
theorem dX11_dropFromTuplets_40 : decode cX11_dropFromTuplets 40 = .ok (.getfield 288, 3) := by decide +kernel
theorem dX11_dropFromTuplets_43 : decode cX11_dropFromTuplets 43 = .ok (.ifCond .ne 10, 3) := by decide +kernel
theorem dX11_dropFromTuplets_46 : decode cX11_dropFromTuplets 46 = .ok (.aload_n 0, 1) := by decide +kernel
theorem dX11_dropFromTuplets_47 : decode cX11_dropFromTuplets 47 = .ok (.getfield 43, 3) := by decide +kernel
theorem dX11_dropFromTuplets_50 : decode cX11_dropFromTuplets 50 = .ok (.iload_n 3, 1) := by decide +kernel
theorem dX11_dropFromTuplets_51 : decode cX11_dropFromTuplets 51 = .ok (.aconst_null, 1) := by decide +kernel
theorem dX11_dropFromTuplets_52 : decode cX11_dropFromTuplets 52 = .ok (.aastore, 1) := by decide +kernel
theorem dX11_dropFromTuplets_53 : decode cX11_dropFromTuplets 53 = .ok (.iinc 3 1, 3) := by decide +kernel
theorem dX11_dropFromTuplets_56 : decode cX11_dropFromTuplets 56 = .ok (.goto (-54), 3) := by decide +kernel
theorem dX11_dropFromTuplets_59 : decode cX11_dropFromTuplets 59 = .ok (.return_, 1) := by decide +kernel
theorem dX11_dropFromLines_0 : decode cX11_dropFromLines 0 = .ok (.iconst 0, 1) := by decide +kernel
theorem dX11_dropFromLines_1 : decode cX11_dropFromLines 1 = .ok (.istore_n 2, 1) := by decide +kernel
theorem dX11_dropFromLines_2 : decode cX11_dropFromLines 2 = .ok (.iload_n 2, 1) := by decide +kernel
theorem dX11_dropFromLines_3 : decode cX11_dropFromLines 3 = .ok (.aload_n 0, 1) := by decide +kernel
theorem dX11_dropFromLines_4 : decode cX11_dropFromLines 4 = .ok (.getfield 56, 3) := by decide +kernel
theorem dX11_dropFromLines_7 : decode cX11_dropFromLines 7 = .ok (.if_icmp .ge 55, 3) := by decide +kernel
theorem dX11_dropFromLines_10 : decode cX11_dropFromLines 10 = .ok (.aload_n 0, 1) := by decide +kernel
theorem dX11_dropFromLines_11 : decode cX11_dropFromLines 11 = .ok (.getfield 52, 3) := by decide +kernel
theorem dX11_dropFromLines_14 : decode cX11_dropFromLines 14 = .ok (.iload_n 2, 1) := by decide +kernel
theorem dX11_dropFromLines_15 : decode cX11_dropFromLines 15 = .ok (.aaload, 1) := by decide +kernel
theorem dX11_dropFromLines_16 : decode cX11_dropFromLines 16 = .ok (.astore_n 3, 1) := by decide +kernel
theorem dX11_dropFromLines_17 : decode cX11_dropFromLines 17 = .ok (.aload_n 3, 1) := by decide +kernel
theorem dX11_dropFromLines_18 : decode cX11_dropFromLines 18 = .ok (.ifnull 21, 3) := by decide +kernel
theorem dX11_dropFromLines_21 : decode cX11_dropFromLines 21 = .ok (.aload_n 3, 1) := by decide +kernel
theorem dX11_dropFromLines_22 : decode cX11_dropFromLines 22 = .ok (.getfield 322, 3) := by decide +kernel
theorem dX11_dropFromLines_25 : decode cX11_dropFromLines 25 = .ok (.aload_n 1, 1) := by decide +kernel
theorem dX11_dropFromLines_26 : decode cX11_dropFromLines 26 = .ok (.if_acmp .ne 13, 3) := by decide +kernel
theorem dX11_dropFromLines_29 : decode cX11_dropFromLines 29 = .ok (.aload_n 0, 1) := by decide +kernel
theorem dX11_dropFromLines_30 : decode cX11_dropFromLines 30 = .ok (.getfield 52, 3) := by decide +kernel
theorem dX11_dropFromLines_33 : decode cX11_dropFromLines 33 = .ok (.iload_n 2, 1) := by decide +kernel
theorem dX11_dropFromLines_34 : decode cX11_dropFromLines 34 = .ok (.aconst_null, 1) := by decide +kernel
theorem dX11_dropFromLines_35 : decode cX11_dropFromLines 35 = .ok (.aastore, 1) := by decide +kernel
theorem dX11_dropFromLines_36 : decode cX11_dropFromLines 36 = .ok (.goto 20, 3) := by decide +kernel
theorem dX11_dropFromLines_39 : decode cX11_dropFromLines 39 = .ok (.aload_n 3, 1) := by decide +kernel
theorem dX11_dropFromLines_40 : decode cX11_dropFromLines 40 = .ok (.ifnull 16, 3) := by decide +kernel
theorem dX11_dropFromLines_43 : decode cX11_dropFromLines 43 = .ok (.aload_n 3, 1) := by decide +kernel
theorem dX11_dropFromLines_44 : decode cX11_dropFromLines 44 = .ok (.getfield 317, 3) := by decide +kernel
theorem dX11_dropFromLines_47 : decode cX11_dropFromLines 47 = .ok (.aload_n 1, 1) := by decide +kernel
theorem dX11_dropFromLines_48 : decode cX11_dropFromLines 48 = .ok (.if_acmp .ne 8, 3) := by decide +kernel
theorem dX11_dropFromLines_51 : decode cX11_dropFromLines 51 = .ok (.aload_n 3, 1) := by decide +kernel
theorem dX11_dropFromLines_52 : decode cX11_dropFromLines 52 = .ok (.aconst_null, 1) := by decide +kernel
theorem dX11_dropFromLines_53 : decode cX11_dropFromLines 53 = .ok (.putfield 317, 3) := by decide +kernel
theorem dX11_dropFromLines_56 : decode cX11_dropFromLines 56 = .ok (.iinc 2 1, 3) := by decide +kernel
theorem dX11_dropFromLines_59 : decode cX11_dropFromLines 59 = .ok (.goto (-57), 3) := by decide +kernel
theorem dX11_dropFromLines_62 : decode cX11_dropFromLines 62 = .ok (.return_, 1) := by decide +kernel
theorem dX11_dropFromRacks_0 : decode cX11_dropFromRacks 0 = .ok (.iconst 0, 1) := by decide +kernel
theorem dX11_dropFromRacks_1 : decode cX11_dropFromRacks 1 = .ok (.istore_n 2, 1) := by decide +kernel
theorem dX11_dropFromRacks_2 : decode cX11_dropFromRacks 2 = .ok (.iload_n 2, 1) := by decide +kernel
theorem dX11_dropFromRacks_3 : decode cX11_dropFromRacks 3 = .ok (.iconst 4, 1) := by decide +kernel
theorem dX11_dropFromRacks_4 : decode cX11_dropFromRacks 4 = .ok (.if_icmp .ge 29, 3) := by decide +kernel
theorem dX11_dropFromRacks_7 : decode cX11_dropFromRacks 7 = .ok (.aload_n 0, 1) := by decide +kernel
theorem dX11_dropFromRacks_8 : decode cX11_dropFromRacks 8 = .ok (.getfield 74, 3) := by decide +kernel
theorem dX11_dropFromRacks_11 : decode cX11_dropFromRacks 11 = .ok (.iload_n 2, 1) := by decide +kernel
theorem dX11_dropFromRacks_12 : decode cX11_dropFromRacks 12 = .ok (.aaload, 1) := by decide +kernel
theorem dX11_dropFromRacks_13 : decode cX11_dropFromRacks 13 = .ok (.ifnull 14, 3) := by decide +kernel
theorem dX11_dropFromRacks_16 : decode cX11_dropFromRacks 16 = .ok (.aload_n 0, 1) := by decide +kernel
theorem dX11_dropFromRacks_17 : decode cX11_dropFromRacks 17 = .ok (.getfield 74, 3) := by decide +kernel
theorem dX11_dropFromRacks_20 : decode cX11_dropFromRacks 20 = .ok (.iload_n 2, 1) := by decide +kernel
theorem dX11_dropFromRacks_21 : decode cX11_dropFromRacks 21 = .ok (.aaload, 1) := by decide +kernel
theorem dX11_dropFromRacks_22 : decode cX11_dropFromRacks 22 = .ok (.iload_n 1, 1) := by decide +kernel
theorem dX11_dropFromRacks_23 : decode cX11_dropFromRacks 23 = .ok (.iconst (-1), 1) := by decide +kernel
theorem dX11_dropFromRacks_24 : decode cX11_dropFromRacks 24 = .ok (.invokevirtual 451, 3) := by decide +kernel
theorem dX11_dropFromRacks_27 : decode cX11_dropFromRacks 27 = .ok (.iinc 2 1, 3) := by decide +kernel
theorem dX11_dropFromRacks_30 : decode cX11_dropFromRacks 30 = .ok (.goto (-28), 3) := by decide +kernel
theorem dX11_dropFromRacks_33 : decode cX11_dropFromRacks 33 = .ok (.return_, 1) := by decide +kernel
theorem dX11_tupletsOver_0 : decode cX11_tupletsOver 0 = .ok (.iconst 0, 1) := by decide +kernel
theorem dX11_tupletsOver_1 : decode cX11_tupletsOver 1 = .ok (.istore_n 3, 1) := by decide +kernel
theorem dX11_tupletsOver_2 : decode cX11_tupletsOver 2 = .ok (.iconst 0, 1) := by decide +kernel
theorem dX11_tupletsOver_3 : decode cX11_tupletsOver 3 = .ok (.istore 4, 2) := by decide +kernel
theorem dX11_tupletsOver_5 : decode cX11_tupletsOver 5 = .ok (.iload 4, 2) := by decide +kernel
theorem dX11_tupletsOver_7 : decode cX11_tupletsOver 7 = .ok (.aload_n 0, 1) := by decide +kernel
theorem dX11_tupletsOver_8 : decode cX11_tupletsOver 8 = .ok (.getfield 47, 3) := by decide +kernel
theorem dX11_tupletsOver_11 : decode cX11_tupletsOver 11 = .ok (.if_icmp .ge 44, 3) := by decide +kernel
theorem dX11_tupletsOver_14 : decode cX11_tupletsOver 14 = .ok (.aload_n 0, 1) := by decide +kernel
theorem dX11_tupletsOver_15 : decode cX11_tupletsOver 15 = .ok (.getfield 43, 3) := by decide +kernel
theorem dX11_tupletsOver_18 : decode cX11_tupletsOver 18 = .ok (.iload 4, 2) := by decide +kernel
theorem dX11_tupletsOver_20 : decode cX11_tupletsOver 20 = .ok (.aaload, 1) := by decide +kernel
theorem dX11_tupletsOver_21 : decode cX11_tupletsOver 21 = .ok (.astore 5, 2) := by decide +kernel
theorem dX11_tupletsOver_23 : decode cX11_tupletsOver 23 = .ok (.aload 5, 2) := by decide +kernel
theorem dX11_tupletsOver_25 : decode cX11_tupletsOver 25 = .ok (.ifnull 24, 3) := by decide +kernel
theorem dX11_tupletsOver_28 : decode cX11_tupletsOver 28 = .ok (.aload 5, 2) := by decide +kernel
theorem dX11_tupletsOver_30 : decode cX11_tupletsOver 30 = .ok (.getfield 140, 3) := by decide +kernel
theorem dX11_tupletsOver_33 : decode cX11_tupletsOver 33 = .ok (.aload_n 1, 1) := by decide +kernel
theorem dX11_tupletsOver_34 : decode cX11_tupletsOver 34 = .ok (.if_acmp .ne 15, 3) := by decide +kernel
theorem dX11_tupletsOver_37 : decode cX11_tupletsOver 37 = .ok (.aload 5, 2) := by decide +kernel
theorem dX11_tupletsOver_39 : decode cX11_tupletsOver 39 = .ok (.iload_n 2, 1) := by decide +kernel
theorem dX11_tupletsOver_40 : decode cX11_tupletsOver 40 = .ok (.invokevirtual 455, 3) := by decide +kernel
theorem dX11_tupletsOver_43 : decode cX11_tupletsOver 43 = .ok (.ifCond .eq 6, 3) := by decide +kernel
theorem dX11_tupletsOver_46 : decode cX11_tupletsOver 46 = .ok (.iinc 3 1, 3) := by decide +kernel
theorem dX11_tupletsOver_49 : decode cX11_tupletsOver 49 = .ok (.iinc 4 1, 3) := by decide +kernel
theorem dX11_tupletsOver_52 : decode cX11_tupletsOver 52 = .ok (.goto (-47), 3) := by decide +kernel
theorem dX11_tupletsOver_55 : decode cX11_tupletsOver 55 = .ok (.iload_n 3, 1) := by decide +kernel
theorem dX11_tupletsOver_56 : decode cX11_tupletsOver 56 = .ok (.ireturn, 1) := by decide +kernel
theorem dX11_tupletsAround_0 : decode cX11_tupletsAround 0 = .ok (.iconst 0, 1) := by decide +kernel
theorem dX11_tupletsAround_1 : decode cX11_tupletsAround 1 = .ok (.istore_n 2, 1) := by decide +kernel
theorem dX11_tupletsAround_2 : decode cX11_tupletsAround 2 = .ok (.iconst 0, 1) := by decide +kernel
theorem dX11_tupletsAround_3 : decode cX11_tupletsAround 3 = .ok (.istore_n 3, 1) := by decide +kernel
theorem dX11_tupletsAround_4 : decode cX11_tupletsAround 4 = .ok (.iload_n 3, 1) := by decide +kernel
theorem dX11_tupletsAround_5 : decode cX11_tupletsAround 5 = .ok (.aload_n 0, 1) := by decide +kernel
theorem dX11_tupletsAround_6 : decode cX11_tupletsAround 6 = .ok (.getfield 47, 3) := by decide +kernel
theorem dX11_tupletsAround_9 : decode cX11_tupletsAround 9 = .ok (.if_icmp .ge 34, 3) := by decide +kernel
theorem dX11_tupletsAround_12 : decode cX11_tupletsAround 12 = .ok (.aload_n 0, 1) := by decide +kernel
theorem dX11_tupletsAround_13 : decode cX11_tupletsAround 13 = .ok (.getfield 43, 3) := by decide +kernel
theorem dX11_tupletsAround_16 : decode cX11_tupletsAround 16 = .ok (.iload_n 3, 1) := by decide +kernel
theorem dX11_tupletsAround_17 : decode cX11_tupletsAround 17 = .ok (.aaload, 1) := by decide +kernel
theorem dX11_tupletsAround_18 : decode cX11_tupletsAround 18 = .ok (.ifnull 19, 3) := by decide +kernel
theorem dX11_tupletsAround_21 : decode cX11_tupletsAround 21 = .ok (.aload_n 1, 1) := by decide +kernel
theorem dX11_tupletsAround_22 : decode cX11_tupletsAround 22 = .ok (.aload_n 0, 1) := by decide +kernel
theorem dX11_tupletsAround_23 : decode cX11_tupletsAround 23 = .ok (.getfield 43, 3) := by decide +kernel
theorem dX11_tupletsAround_26 : decode cX11_tupletsAround 26 = .ok (.iload_n 3, 1) := by decide +kernel
theorem dX11_tupletsAround_27 : decode cX11_tupletsAround 27 = .ok (.aaload, 1) := by decide +kernel
theorem dX11_tupletsAround_28 : decode cX11_tupletsAround 28 = .ok (.invokevirtual 458, 3) := by decide +kernel
theorem dX11_tupletsAround_31 : decode cX11_tupletsAround 31 = .ok (.ifCond .eq 6, 3) := by decide +kernel
theorem dX11_tupletsAround_34 : decode cX11_tupletsAround 34 = .ok (.iinc 2 1, 3) := by decide +kernel
theorem dX11_tupletsAround_37 : decode cX11_tupletsAround 37 = .ok (.iinc 3 1, 3) := by decide +kernel
theorem dX11_tupletsAround_40 : decode cX11_tupletsAround 40 = .ok (.goto (-36), 3) := by decide +kernel
theorem dX11_tupletsAround_43 : decode cX11_tupletsAround 43 = .ok (.iload_n 2, 1) := by decide +kernel
theorem dX11_tupletsAround_44 : decode cX11_tupletsAround 44 = .ok (.ireturn, 1) := by decide +kernel
theorem dX11_tupletFits_0 : decode cX11_tupletFits 0 = .ok (.iload_n 2, 1) := by decide +kernel
theorem dX11_tupletFits_1 : decode cX11_tupletFits 1 = .ok (.istore 4, 2) := by decide +kernel
theorem dX11_tupletFits_3 : decode cX11_tupletFits 3 = .ok (.iload 4, 2) := by decide +kernel
theorem dX11_tupletFits_5 : decode cX11_tupletFits 5 = .ok (.iload_n 2, 1) := by decide +kernel
theorem dX11_tupletFits_6 : decode cX11_tupletFits 6 = .ok (.iload_n 3, 1) := by decide +kernel
theorem dX11_tupletFits_7 : decode cX11_tupletFits 7 = .ok (.iadd, 1) := by decide +kernel
theorem dX11_tupletFits_8 : decode cX11_tupletFits 8 = .ok (.if_icmp .ge 22, 3) := by decide +kernel
theorem dX11_tupletFits_11 : decode cX11_tupletFits 11 = .ok (.aload_n 0, 1) := by decide +kernel
theorem dX11_tupletFits_12 : decode cX11_tupletFits 12 = .ok (.aload_n 1, 1) := by decide +kernel
theorem dX11_tupletFits_13 : decode cX11_tupletFits 13 = .ok (.iload 4, 2) := by decide +kernel
theorem dX11_tupletFits_15 : decode cX11_tupletFits 15 = .ok (.invokevirtual 236, 3) := by decide +kernel
theorem dX11_tupletFits_18 : decode cX11_tupletFits 18 = .ok (.iconst 2, 1) := by decide +kernel
theorem dX11_tupletFits_19 : decode cX11_tupletFits 19 = .ok (.if_icmp .lt 5, 3) := by decide +kernel
theorem dX11_tupletFits_22 : decode cX11_tupletFits 22 = .ok (.iconst 0, 1) := by decide +kernel
theorem dX11_tupletFits_23 : decode cX11_tupletFits 23 = .ok (.ireturn, 1) := by decide +kernel
theorem dX11_tupletFits_24 : decode cX11_tupletFits 24 = .ok (.iinc 4 1, 3) := by decide +kernel
theorem dX11_tupletFits_27 : decode cX11_tupletFits 27 = .ok (.goto (-24), 3) := by decide +kernel
theorem dX11_tupletFits_30 : decode cX11_tupletFits 30 = .ok (.iconst 0, 1) := by decide +kernel
theorem dX11_tupletFits_31 : decode cX11_tupletFits 31 = .ok (.istore 4, 2) := by decide +kernel
theorem dX11_tupletFits_33 : decode cX11_tupletFits 33 = .ok (.iload 4, 2) := by decide +kernel
theorem dX11_tupletFits_35 : decode cX11_tupletFits 35 = .ok (.aload_n 0, 1) := by decide +kernel
theorem dX11_tupletFits_36 : decode cX11_tupletFits 36 = .ok (.getfield 47, 3) := by decide +kernel
theorem dX11_tupletFits_39 : decode cX11_tupletFits 39 = .ok (.if_icmp .ge 50, 3) := by decide +kernel
theorem dX11_tupletFits_42 : decode cX11_tupletFits 42 = .ok (.aload_n 0, 1) := by decide +kernel
theorem dX11_tupletFits_43 : decode cX11_tupletFits 43 = .ok (.getfield 43, 3) := by decide +kernel
theorem dX11_tupletFits_46 : decode cX11_tupletFits 46 = .ok (.iload 4, 2) := by decide +kernel
theorem dX11_tupletFits_48 : decode cX11_tupletFits 48 = .ok (.aaload, 1) := by decide +kernel
theorem dX11_tupletFits_49 : decode cX11_tupletFits 49 = .ok (.ifnull 34, 3) := by decide +kernel
theorem dX11_tupletFits_52 : decode cX11_tupletFits 52 = .ok (.aload_n 0, 1) := by decide +kernel
theorem dX11_tupletFits_53 : decode cX11_tupletFits 53 = .ok (.getfield 43, 3) := by decide +kernel
theorem dX11_tupletFits_56 : decode cX11_tupletFits 56 = .ok (.iload 4, 2) := by decide +kernel
theorem dX11_tupletFits_58 : decode cX11_tupletFits 58 = .ok (.aaload, 1) := by decide +kernel
theorem dX11_tupletFits_59 : decode cX11_tupletFits 59 = .ok (.getfield 140, 3) := by decide +kernel
theorem dX11_tupletFits_62 : decode cX11_tupletFits 62 = .ok (.aload_n 1, 1) := by decide +kernel
theorem dX11_tupletFits_63 : decode cX11_tupletFits 63 = .ok (.if_acmp .ne 20, 3) := by decide +kernel
theorem dX11_tupletFits_66 : decode cX11_tupletFits 66 = .ok (.aload_n 0, 1) := by decide +kernel
theorem dX11_tupletFits_67 : decode cX11_tupletFits 67 = .ok (.getfield 43, 3) := by decide +kernel
theorem dX11_tupletFits_70 : decode cX11_tupletFits 70 = .ok (.iload 4, 2) := by decide +kernel
theorem dX11_tupletFits_72 : decode cX11_tupletFits 72 = .ok (.aaload, 1) := by decide +kernel
theorem dX11_tupletFits_73 : decode cX11_tupletFits 73 = .ok (.iload_n 2, 1) := by decide +kernel
theorem dX11_tupletFits_74 : decode cX11_tupletFits 74 = .ok (.iload_n 3, 1) := by decide +kernel
theorem dX11_tupletFits_75 : decode cX11_tupletFits 75 = .ok (.invokevirtual 461, 3) := by decide +kernel
theorem dX11_tupletFits_78 : decode cX11_tupletFits 78 = .ok (.ifCond .eq 5, 3) := by decide +kernel
theorem dX11_tupletFits_81 : decode cX11_tupletFits 81 = .ok (.iconst 0, 1) := by decide +kernel
theorem dX11_tupletFits_82 : decode cX11_tupletFits 82 = .ok (.ireturn, 1) := by decide +kernel
theorem dX11_tupletFits_83 : decode cX11_tupletFits 83 = .ok (.iinc 4 1, 3) := by decide +kernel
theorem dX11_tupletFits_86 : decode cX11_tupletFits 86 = .ok (.goto (-53), 3) := by decide +kernel
theorem dX11_tupletFits_89 : decode cX11_tupletFits 89 = .ok (.iconst 1, 1) := by decide +kernel
theorem dX11_tupletFits_90 : decode cX11_tupletFits 90 = .ok (.ireturn, 1) := by decide +kernel
theorem dX11_innerAt_0 : decode cX11_innerAt 0 = .ok (.iconst 0, 1) := by decide +kernel
theorem dX11_innerAt_1 : decode cX11_innerAt 1 = .ok (.istore_n 3, 1) := by decide +kernel
theorem dX11_innerAt_2 : decode cX11_innerAt 2 = .ok (.iload_n 3, 1) := by decide +kernel
theorem dX11_innerAt_3 : decode cX11_innerAt 3 = .ok (.aload_n 0, 1) := by decide +kernel
theorem dX11_innerAt_4 : decode cX11_innerAt 4 = .ok (.getfield 47, 3) := by decide +kernel
theorem dX11_innerAt_7 : decode cX11_innerAt 7 = .ok (.if_icmp .ge 51, 3) := by decide +kernel
theorem dX11_innerAt_10 : decode cX11_innerAt 10 = .ok (.aload_n 0, 1) := by decide +kernel
theorem dX11_innerAt_11 : decode cX11_innerAt 11 = .ok (.getfield 43, 3) := by decide +kernel
theorem dX11_innerAt_14 : decode cX11_innerAt 14 = .ok (.iload_n 3, 1) := by decide +kernel
theorem dX11_innerAt_15 : decode cX11_innerAt 15 = .ok (.aaload, 1) := by decide +kernel
theorem dX11_innerAt_16 : decode cX11_innerAt 16 = .ok (.ifnull 36, 3) := by decide +kernel
theorem dX11_innerAt_19 : decode cX11_innerAt 19 = .ok (.aload_n 0, 1) := by decide +kernel
theorem dX11_innerAt_20 : decode cX11_innerAt 20 = .ok (.getfield 43, 3) := by decide +kernel
theorem dX11_innerAt_23 : decode cX11_innerAt 23 = .ok (.iload_n 3, 1) := by decide +kernel
theorem dX11_innerAt_24 : decode cX11_innerAt 24 = .ok (.aaload, 1) := by decide +kernel
theorem dX11_innerAt_25 : decode cX11_innerAt 25 = .ok (.aload_n 1, 1) := by decide +kernel
theorem dX11_innerAt_26 : decode cX11_innerAt 26 = .ok (.invokevirtual 458, 3) := by decide +kernel
theorem dX11_innerAt_29 : decode cX11_innerAt 29 = .ok (.ifCond .eq 23, 3) := by decide +kernel
theorem dX11_innerAt_32 : decode cX11_innerAt 32 = .ok (.aload_n 0, 1) := by decide +kernel
theorem dX11_innerAt_33 : decode cX11_innerAt 33 = .ok (.getfield 43, 3) := by decide +kernel
theorem dX11_innerAt_36 : decode cX11_innerAt 36 = .ok (.iload_n 3, 1) := by decide +kernel
theorem dX11_innerAt_37 : decode cX11_innerAt 37 = .ok (.aaload, 1) := by decide +kernel
theorem dX11_innerAt_38 : decode cX11_innerAt 38 = .ok (.iload_n 2, 1) := by decide +kernel
theorem dX11_innerAt_39 : decode cX11_innerAt 39 = .ok (.invokevirtual 455, 3) := by decide +kernel
theorem dX11_innerAt_42 : decode cX11_innerAt 42 = .ok (.ifCond .eq 10, 3) := by decide +kernel
theorem dX11_innerAt_45 : decode cX11_innerAt 45 = .ok (.aload_n 0, 1) := by decide +kernel
theorem dX11_innerAt_46 : decode cX11_innerAt 46 = .ok (.getfield 43, 3) := by decide +kernel
theorem dX11_innerAt_49 : decode cX11_innerAt 49 = .ok (.iload_n 3, 1) := by decide +kernel
theorem dX11_innerAt_50 : decode cX11_innerAt 50 = .ok (.aaload, 1) := by decide +kernel
theorem dX11_innerAt_51 : decode cX11_innerAt 51 = .ok (.areturn, 1) := by decide +kernel
theorem dX11_innerAt_52 : decode cX11_innerAt 52 = .ok (.iinc 3 1, 3) := by decide +kernel
theorem dX11_innerAt_55 : decode cX11_innerAt 55 = .ok (.goto (-53), 3) := by decide +kernel
theorem dX11_innerAt_58 : decode cX11_innerAt 58 = .ok (.aconst_null, 1) := by decide +kernel
theorem dX11_innerAt_59 : decode cX11_innerAt 59 = .ok (.areturn, 1) := by decide +kernel
theorem dX11_tupletIsFull_0 : decode cX11_tupletIsFull 0 = .ok (.lconst 0, 1) := by decide +kernel
theorem dX11_tupletIsFull_1 : decode cX11_tupletIsFull 1 = .ok (.lstore_n 2, 1) := by decide +kernel
theorem dX11_tupletIsFull_2 : decode cX11_tupletIsFull 2 = .ok (.aload_n 1, 1) := by decide +kernel
theorem dX11_tupletIsFull_3 : decode cX11_tupletIsFull 3 = .ok (.getfield 291, 3) := by decide +kernel
theorem dX11_tupletIsFull_6 : decode cX11_tupletIsFull 6 = .ok (.istore 4, 2) := by decide +kernel
theorem dX11_tupletIsFull_8 : decode cX11_tupletIsFull 8 = .ok (.iload 4, 2) := by decide +kernel
theorem dX11_tupletIsFull_10 : decode cX11_tupletIsFull 10 = .ok (.aload_n 1, 1) := by decide +kernel
theorem dX11_tupletIsFull_11 : decode cX11_tupletIsFull 11 = .ok (.getfield 291, 3) := by decide +kernel
theorem dX11_tupletIsFull_14 : decode cX11_tupletIsFull 14 = .ok (.aload_n 1, 1) := by decide +kernel
theorem dX11_tupletIsFull_15 : decode cX11_tupletIsFull 15 = .ok (.getfield 288, 3) := by decide +kernel
theorem dX11_tupletIsFull_18 : decode cX11_tupletIsFull 18 = .ok (.iadd, 1) := by decide +kernel
theorem dX11_tupletIsFull_19 : decode cX11_tupletIsFull 19 = .ok (.if_icmp .ge 60, 3) := by decide +kernel
theorem dX11_tupletIsFull_22 : decode cX11_tupletIsFull 22 = .ok (.aload_n 1, 1) := by decide +kernel
theorem dX11_tupletIsFull_23 : decode cX11_tupletIsFull 23 = .ok (.getfield 140, 3) := by decide +kernel
theorem dX11_tupletIsFull_26 : decode cX11_tupletIsFull 26 = .ok (.iload 4, 2) := by decide +kernel
theorem dX11_tupletIsFull_28 : decode cX11_tupletIsFull 28 = .ok (.invokevirtual 265, 3) := by decide +kernel
theorem dX11_tupletIsFull_31 : decode cX11_tupletIsFull 31 = .ok (.astore 5, 2) := by decide +kernel
theorem dX11_tupletIsFull_33 : decode cX11_tupletIsFull 33 = .ok (.aload 5, 2) := by decide +kernel
theorem dX11_tupletIsFull_35 : decode cX11_tupletIsFull 35 = .ok (.ifnull 38, 3) := by decide +kernel
theorem dX11_tupletIsFull_38 : decode cX11_tupletIsFull 38 = .ok (.aload_n 0, 1) := by decide +kernel
theorem dX11_tupletIsFull_39 : decode cX11_tupletIsFull 39 = .ok (.aload_n 1, 1) := by decide +kernel
theorem dX11_tupletIsFull_40 : decode cX11_tupletIsFull 40 = .ok (.iload 4, 2) := by decide +kernel
theorem dX11_tupletIsFull_42 : decode cX11_tupletIsFull 42 = .ok (.invokevirtual 464, 3) := by decide +kernel
theorem dX11_tupletIsFull_45 : decode cX11_tupletIsFull 45 = .ok (.astore 6, 2) := by decide +kernel
theorem dX11_tupletIsFull_47 : decode cX11_tupletIsFull 47 = .ok (.lload_n 2, 1) := by decide +kernel
theorem dX11_tupletIsFull_48 : decode cX11_tupletIsFull 48 = .ok (.aload 6, 2) := by decide +kernel
theorem dX11_tupletIsFull_50 : decode cX11_tupletIsFull 50 = .ok (.ifnonnull 11, 3) := by decide +kernel
theorem dX11_tupletIsFull_53 : decode cX11_tupletIsFull 53 = .ok (.aload 5, 2) := by decide +kernel
theorem dX11_tupletIsFull_55 : decode cX11_tupletIsFull 55 = .ok (.invokevirtual 468, 3) := by decide +kernel
theorem dX11_tupletIsFull_58 : decode cX11_tupletIsFull 58 = .ok (.goto 13, 3) := by decide +kernel
theorem dX11_tupletIsFull_61 : decode cX11_tupletIsFull 61 = .ok (.aload 6, 2) := by decide +kernel
theorem dX11_tupletIsFull_63 : decode cX11_tupletIsFull 63 = .ok (.aload 5, 2) := by decide +kernel
theorem dX11_tupletIsFull_65 : decode cX11_tupletIsFull 65 = .ok (.invokevirtual 468, 3) := by decide +kernel
theorem dX11_tupletIsFull_68 : decode cX11_tupletIsFull 68 = .ok (.invokevirtual 472, 3) := by decide +kernel
theorem dX11_tupletIsFull_71 : decode cX11_tupletIsFull 71 = .ok (.ladd, 1) := by decide +kernel
theorem dX11_tupletIsFull_72 : decode cX11_tupletIsFull 72 = .ok (.lstore_n 2, 1) := by decide +kernel
theorem dX11_tupletIsFull_73 : decode cX11_tupletIsFull 73 = .ok (.iinc 4 1, 3) := by decide +kernel
theorem dX11_tupletIsFull_76 : decode cX11_tupletIsFull 76 = .ok (.goto (-68), 3) := by decide +kernel
theorem dX11_tupletIsFull_79 : decode cX11_tupletIsFull 79 = .ok (.lload_n 2, 1) := by decide +kernel
theorem dX11_tupletIsFull_80 : decode cX11_tupletIsFull 80 = .ok (.aload_n 1, 1) := by decide +kernel
theorem dX11_tupletIsFull_81 : decode cX11_tupletIsFull 81 = .ok (.getfield 294, 3) := by decide +kernel
theorem dX11_tupletIsFull_84 : decode cX11_tupletIsFull 84 = .ok (.i2l, 1) := by decide +kernel
theorem dX11_tupletIsFull_85 : decode cX11_tupletIsFull 85 = .ok (.ldc2_w 110, 3) := by decide +kernel
theorem dX11_tupletIsFull_88 : decode cX11_tupletIsFull 88 = .ok (.aload_n 1, 1) := by decide +kernel
theorem dX11_tupletIsFull_89 : decode cX11_tupletIsFull 89 = .ok (.getfield 300, 3) := by decide +kernel
theorem dX11_tupletIsFull_92 : decode cX11_tupletIsFull 92 = .ok (.lshr, 1) := by decide +kernel
theorem dX11_tupletIsFull_93 : decode cX11_tupletIsFull 93 = .ok (.lmul, 1) := by decide +kernel
theorem dX11_tupletIsFull_94 : decode cX11_tupletIsFull 94 = .ok (.lcmp, 1) := by decide +kernel
theorem dX11_tupletIsFull_95 : decode cX11_tupletIsFull 95 = .ok (.ifCond .ne 7, 3) := by decide +kernel
theorem dX11_tupletIsFull_98 : decode cX11_tupletIsFull 98 = .ok (.iconst 1, 1) := by decide +kernel
theorem dX11_tupletIsFull_99 : decode cX11_tupletIsFull 99 = .ok (.goto 4, 3) := by decide +kernel
theorem dX11_tupletIsFull_102 : decode cX11_tupletIsFull 102 = .ok (.iconst 0, 1) := by decide +kernel
theorem dX11_tupletIsFull_103 : decode cX11_tupletIsFull 103 = .ok (.ireturn, 1) := by decide +kernel
theorem dX11_tupletsAlike_0 : decode cX11_tupletsAlike 0 = .ok (.aload_n 0, 1) := by decide +kernel
theorem dX11_tupletsAlike_1 : decode cX11_tupletsAlike 1 = .ok (.aload_n 1, 1) := by decide +kernel
theorem dX11_tupletsAlike_2 : decode cX11_tupletsAlike 2 = .ok (.iconst 0, 1) := by decide +kernel
theorem dX11_tupletsAlike_3 : decode cX11_tupletsAlike 3 = .ok (.invokevirtual 475, 3) := by decide +kernel
theorem dX11_tupletsAlike_6 : decode cX11_tupletsAlike 6 = .ok (.istore_n 3, 1) := by decide +kernel
theorem dX11_tupletsAlike_7 : decode cX11_tupletsAlike 7 = .ok (.aload_n 0, 1) := by decide +kernel
theorem dX11_tupletsAlike_8 : decode cX11_tupletsAlike 8 = .ok (.aload_n 2, 1) := by decide +kernel
theorem dX11_tupletsAlike_9 : decode cX11_tupletsAlike 9 = .ok (.iconst 0, 1) := by decide +kernel
theorem dX11_tupletsAlike_10 : decode cX11_tupletsAlike 10 = .ok (.invokevirtual 475, 3) := by decide +kernel
theorem dX11_tupletsAlike_13 : decode cX11_tupletsAlike 13 = .ok (.istore 4, 2) := by decide +kernel
theorem dX11_tupletsAlike_15 : decode cX11_tupletsAlike 15 = .ok (.iconst 0, 1) := by decide +kernel
theorem dX11_tupletsAlike_16 : decode cX11_tupletsAlike 16 = .ok (.istore 5, 2) := by decide +kernel
theorem dX11_tupletsAlike_18 : decode cX11_tupletsAlike 18 = .ok (.iload 5, 2) := by decide +kernel
theorem dX11_tupletsAlike_20 : decode cX11_tupletsAlike 20 = .ok (.bipush 20, 2) := by decide +kernel
theorem dX11_tupletsAlike_22 : decode cX11_tupletsAlike 22 = .ok (.if_icmp .ge 67, 3) := by decide +kernel
theorem dX11_tupletsAlike_25 : decode cX11_tupletsAlike 25 = .ok (.iload_n 3, 1) := by decide +kernel
theorem dX11_tupletsAlike_26 : decode cX11_tupletsAlike 26 = .ok (.aload_n 0, 1) := by decide +kernel
theorem dX11_tupletsAlike_27 : decode cX11_tupletsAlike 27 = .ok (.getfield 47, 3) := by decide +kernel
theorem dX11_tupletsAlike_30 : decode cX11_tupletsAlike 30 = .ok (.if_icmp .ge 59, 3) := by decide +kernel
theorem dX11_tupletsAlike_33 : decode cX11_tupletsAlike 33 = .ok (.iload 4, 2) := by decide +kernel
theorem dX11_tupletsAlike_35 : decode cX11_tupletsAlike 35 = .ok (.aload_n 0, 1) := by decide +kernel
theorem dX11_tupletsAlike_36 : decode cX11_tupletsAlike 36 = .ok (.getfield 47, 3) := by decide +kernel
theorem dX11_tupletsAlike_39 : decode cX11_tupletsAlike 39 = .ok (.if_icmp .ge 50, 3) := by decide +kernel
theorem dX11_tupletsAlike_42 : decode cX11_tupletsAlike 42 = .ok (.aload_n 0, 1) := by decide +kernel
theorem dX11_tupletsAlike_43 : decode cX11_tupletsAlike 43 = .ok (.getfield 43, 3) := by decide +kernel
theorem dX11_tupletsAlike_46 : decode cX11_tupletsAlike 46 = .ok (.iload_n 3, 1) := by decide +kernel
theorem dX11_tupletsAlike_47 : decode cX11_tupletsAlike 47 = .ok (.aaload, 1) := by decide +kernel
theorem dX11_tupletsAlike_48 : decode cX11_tupletsAlike 48 = .ok (.aload_n 0, 1) := by decide +kernel
theorem dX11_tupletsAlike_49 : decode cX11_tupletsAlike 49 = .ok (.getfield 43, 3) := by decide +kernel
theorem dX11_tupletsAlike_52 : decode cX11_tupletsAlike 52 = .ok (.iload 4, 2) := by decide +kernel
theorem dX11_tupletsAlike_54 : decode cX11_tupletsAlike 54 = .ok (.aaload, 1) := by decide +kernel
theorem dX11_tupletsAlike_55 : decode cX11_tupletsAlike 55 = .ok (.invokevirtual 478, 3) := by decide +kernel
theorem dX11_tupletsAlike_58 : decode cX11_tupletsAlike 58 = .ok (.ifCond .ne 5, 3) := by decide +kernel
theorem dX11_tupletsAlike_61 : decode cX11_tupletsAlike 61 = .ok (.iconst 0, 1) := by decide +kernel
theorem dX11_tupletsAlike_62 : decode cX11_tupletsAlike 62 = .ok (.ireturn, 1) := by decide +kernel
theorem dX11_tupletsAlike_63 : decode cX11_tupletsAlike 63 = .ok (.aload_n 0, 1) := by decide +kernel
theorem dX11_tupletsAlike_64 : decode cX11_tupletsAlike 64 = .ok (.aload_n 1, 1) := by decide +kernel
theorem dX11_tupletsAlike_65 : decode cX11_tupletsAlike 65 = .ok (.iload_n 3, 1) := by decide +kernel
theorem dX11_tupletsAlike_66 : decode cX11_tupletsAlike 66 = .ok (.iconst 1, 1) := by decide +kernel
theorem dX11_tupletsAlike_67 : decode cX11_tupletsAlike 67 = .ok (.iadd, 1) := by decide +kernel
theorem dX11_tupletsAlike_68 : decode cX11_tupletsAlike 68 = .ok (.invokevirtual 475, 3) := by decide +kernel
theorem dX11_tupletsAlike_71 : decode cX11_tupletsAlike 71 = .ok (.istore_n 3, 1) := by decide +kernel
theorem dX11_tupletsAlike_72 : decode cX11_tupletsAlike 72 = .ok (.aload_n 0, 1) := by decide +kernel
theorem dX11_tupletsAlike_73 : decode cX11_tupletsAlike 73 = .ok (.aload_n 2, 1) := by decide +kernel
theorem dX11_tupletsAlike_74 : decode cX11_tupletsAlike 74 = .ok (.iload 4, 2) := by decide +kernel
theorem dX11_tupletsAlike_76 : decode cX11_tupletsAlike 76 = .ok (.iconst 1, 1) := by decide +kernel
theorem dX11_tupletsAlike_77 : decode cX11_tupletsAlike 77 = .ok (.iadd, 1) := by decide +kernel
theorem dX11_tupletsAlike_78 : decode cX11_tupletsAlike 78 = .ok (.invokevirtual 475, 3) := by decide +kernel
theorem dX11_tupletsAlike_81 : decode cX11_tupletsAlike 81 = .ok (.istore 4, 2) := by decide +kernel
theorem dX11_tupletsAlike_83 : decode cX11_tupletsAlike 83 = .ok (.iinc 5 1, 3) := by decide +kernel
theorem dX11_tupletsAlike_86 : decode cX11_tupletsAlike 86 = .ok (.goto (-68), 3) := by decide +kernel
theorem dX11_tupletsAlike_89 : decode cX11_tupletsAlike 89 = .ok (.iload_n 3, 1) := by decide +kernel
theorem dX11_tupletsAlike_90 : decode cX11_tupletsAlike 90 = .ok (.aload_n 0, 1) := by decide +kernel
theorem dX11_tupletsAlike_91 : decode cX11_tupletsAlike 91 = .ok (.getfield 47, 3) := by decide +kernel
theorem dX11_tupletsAlike_94 : decode cX11_tupletsAlike 94 = .ok (.if_icmp .lt 16, 3) := by decide +kernel
theorem dX11_tupletsAlike_97 : decode cX11_tupletsAlike 97 = .ok (.iload 4, 2) := by decide +kernel
theorem dX11_tupletsAlike_99 : decode cX11_tupletsAlike 99 = .ok (.aload_n 0, 1) := by decide +kernel
theorem dX11_tupletsAlike_100 : decode cX11_tupletsAlike 100 = .ok (.getfield 47, 3) := by decide +kernel
theorem dX11_tupletsAlike_103 : decode cX11_tupletsAlike 103 = .ok (.if_icmp .lt 7, 3) := by decide +kernel
theorem dX11_tupletsAlike_106 : decode cX11_tupletsAlike 106 = .ok (.iconst 1, 1) := by decide +kernel
theorem dX11_tupletsAlike_107 : decode cX11_tupletsAlike 107 = .ok (.goto 4, 3) := by decide +kernel
theorem dX11_tupletsAlike_110 : decode cX11_tupletsAlike 110 = .ok (.iconst 0, 1) := by decide +kernel
theorem dX11_tupletsAlike_111 : decode cX11_tupletsAlike 111 = .ok (.ireturn, 1) := by decide +kernel
theorem dX11_nextTuplet_0 : decode cX11_nextTuplet 0 = .ok (.iload_n 2, 1) := by decide +kernel
theorem dX11_nextTuplet_1 : decode cX11_nextTuplet 1 = .ok (.istore_n 3, 1) := by decide +kernel
theorem dX11_nextTuplet_2 : decode cX11_nextTuplet 2 = .ok (.iload_n 3, 1) := by decide +kernel
theorem dX11_nextTuplet_3 : decode cX11_nextTuplet 3 = .ok (.aload_n 0, 1) := by decide +kernel
theorem dX11_nextTuplet_4 : decode cX11_nextTuplet 4 = .ok (.getfield 47, 3) := by decide +kernel
theorem dX11_nextTuplet_7 : decode cX11_nextTuplet 7 = .ok (.if_icmp .ge 33, 3) := by decide +kernel
theorem dX11_nextTuplet_10 : decode cX11_nextTuplet 10 = .ok (.aload_n 0, 1) := by decide +kernel
theorem dX11_nextTuplet_11 : decode cX11_nextTuplet 11 = .ok (.getfield 43, 3) := by decide +kernel
theorem dX11_nextTuplet_14 : decode cX11_nextTuplet 14 = .ok (.iload_n 3, 1) := by decide +kernel
theorem dX11_nextTuplet_15 : decode cX11_nextTuplet 15 = .ok (.aaload, 1) := by decide +kernel
theorem dX11_nextTuplet_16 : decode cX11_nextTuplet 16 = .ok (.ifnull 18, 3) := by decide +kernel
theorem dX11_nextTuplet_19 : decode cX11_nextTuplet 19 = .ok (.aload_n 0, 1) := by decide +kernel
theorem dX11_nextTuplet_20 : decode cX11_nextTuplet 20 = .ok (.getfield 43, 3) := by decide +kernel
theorem dX11_nextTuplet_23 : decode cX11_nextTuplet 23 = .ok (.iload_n 3, 1) := by decide +kernel
theorem dX11_nextTuplet_24 : decode cX11_nextTuplet 24 = .ok (.aaload, 1) := by decide +kernel
theorem dX11_nextTuplet_25 : decode cX11_nextTuplet 25 = .ok (.getfield 140, 3) := by decide +kernel
theorem dX11_nextTuplet_28 : decode cX11_nextTuplet 28 = .ok (.aload_n 1, 1) := by decide +kernel
theorem dX11_nextTuplet_29 : decode cX11_nextTuplet 29 = .ok (.if_acmp .ne 5, 3) := by decide +kernel
theorem dX11_nextTuplet_32 : decode cX11_nextTuplet 32 = .ok (.iload_n 3, 1) := by decide +kernel
theorem dX11_nextTuplet_33 : decode cX11_nextTuplet 33 = .ok (.ireturn, 1) := by decide +kernel
theorem dX11_nextTuplet_34 : decode cX11_nextTuplet 34 = .ok (.iinc 3 1, 3) := by decide +kernel
theorem dX11_nextTuplet_37 : decode cX11_nextTuplet 37 = .ok (.goto (-35), 3) := by decide +kernel
theorem dX11_nextTuplet_40 : decode cX11_nextTuplet 40 = .ok (.aload_n 0, 1) := by decide +kernel
theorem dX11_nextTuplet_41 : decode cX11_nextTuplet 41 = .ok (.getfield 47, 3) := by decide +kernel
theorem dX11_nextTuplet_44 : decode cX11_nextTuplet 44 = .ok (.ireturn, 1) := by decide +kernel
theorem dX11_nextToWalk_0 : decode cX11_nextToWalk 0 = .ok (.aconst_null, 1) := by decide +kernel
theorem dX11_nextToWalk_1 : decode cX11_nextToWalk 1 = .ok (.astore_n 2, 1) := by decide +kernel
theorem dX11_nextToWalk_2 : decode cX11_nextToWalk 2 = .ok (.iconst 0, 1) := by decide +kernel
theorem dX11_nextToWalk_3 : decode cX11_nextToWalk 3 = .ok (.istore_n 3, 1) := by decide +kernel
theorem dX11_nextToWalk_4 : decode cX11_nextToWalk 4 = .ok (.iload_n 3, 1) := by decide +kernel
theorem dX11_nextToWalk_5 : decode cX11_nextToWalk 5 = .ok (.iload_n 1, 1) := by decide +kernel
theorem dX11_nextToWalk_6 : decode cX11_nextToWalk 6 = .ok (.if_icmp .ge 54, 3) := by decide +kernel
theorem dX11_nextToWalk_9 : decode cX11_nextToWalk 9 = .ok (.aload_n 0, 1) := by decide +kernel
theorem dX11_nextToWalk_10 : decode cX11_nextToWalk 10 = .ok (.getfield 21, 3) := by decide +kernel
theorem dX11_nextToWalk_13 : decode cX11_nextToWalk 13 = .ok (.iload_n 3, 1) := by decide +kernel
theorem dX11_nextToWalk_14 : decode cX11_nextToWalk 14 = .ok (.aaload, 1) := by decide +kernel
theorem dX11_nextToWalk_15 : decode cX11_nextToWalk 15 = .ok (.aload_n 0, 1) := by decide +kernel
theorem dX11_nextToWalk_16 : decode cX11_nextToWalk 16 = .ok (.getfield 21, 3) := by decide +kernel
theorem dX11_nextToWalk_19 : decode cX11_nextToWalk 19 = .ok (.iload_n 3, 1) := by decide +kernel
theorem dX11_nextToWalk_20 : decode cX11_nextToWalk 20 = .ok (.aaload, 1) := by decide +kernel
theorem dX11_nextToWalk_21 : decode cX11_nextToWalk 21 = .ok (.getfield 325, 3) := by decide +kernel
theorem dX11_nextToWalk_24 : decode cX11_nextToWalk 24 = .ok (.invokevirtual 265, 3) := by decide +kernel
theorem dX11_nextToWalk_27 : decode cX11_nextToWalk 27 = .ok (.astore 4, 2) := by decide +kernel
theorem dX11_nextToWalk_29 : decode cX11_nextToWalk 29 = .ok (.aload 4, 2) := by decide +kernel
theorem dX11_nextToWalk_31 : decode cX11_nextToWalk 31 = .ok (.ifnull 23, 3) := by decide +kernel
theorem dX11_nextToWalk_34 : decode cX11_nextToWalk 34 = .ok (.aload_n 2, 1) := by decide +kernel
theorem dX11_nextToWalk_35 : decode cX11_nextToWalk 35 = .ok (.ifnull 16, 3) := by decide +kernel
theorem dX11_nextToWalk_38 : decode cX11_nextToWalk 38 = .ok (.aload 4, 2) := by decide +kernel
theorem dX11_nextToWalk_40 : decode cX11_nextToWalk 40 = .ok (.getfield 240, 3) := by decide +kernel
theorem dX11_nextToWalk_43 : decode cX11_nextToWalk 43 = .ok (.aload_n 2, 1) := by decide +kernel
theorem dX11_nextToWalk_44 : decode cX11_nextToWalk 44 = .ok (.getfield 240, 3) := by decide +kernel
theorem dX11_nextToWalk_47 : decode cX11_nextToWalk 47 = .ok (.lcmp, 1) := by decide +kernel
theorem dX11_nextToWalk_48 : decode cX11_nextToWalk 48 = .ok (.ifCond .ge 6, 3) := by decide +kernel
theorem dX11_nextToWalk_51 : decode cX11_nextToWalk 51 = .ok (.aload 4, 2) := by decide +kernel
theorem dX11_nextToWalk_53 : decode cX11_nextToWalk 53 = .ok (.astore_n 2, 1) := by decide +kernel
theorem dX11_nextToWalk_54 : decode cX11_nextToWalk 54 = .ok (.iinc 3 1, 3) := by decide +kernel
theorem dX11_nextToWalk_57 : decode cX11_nextToWalk 57 = .ok (.goto (-53), 3) := by decide +kernel
theorem dX11_nextToWalk_60 : decode cX11_nextToWalk 60 = .ok (.aload_n 2, 1) := by decide +kernel
theorem dX11_nextToWalk_61 : decode cX11_nextToWalk 61 = .ok (.areturn, 1) := by decide +kernel
theorem dX11_findInVoice_0 : decode cX11_findInVoice 0 = .ok (.iconst 0, 1) := by decide +kernel
theorem dX11_findInVoice_1 : decode cX11_findInVoice 1 = .ok (.istore_n 2, 1) := by decide +kernel
theorem dX11_findInVoice_2 : decode cX11_findInVoice 2 = .ok (.iload_n 2, 1) := by decide +kernel
theorem dX11_findInVoice_3 : decode cX11_findInVoice 3 = .ok (.aload_n 1, 1) := by decide +kernel
theorem dX11_findInVoice_4 : decode cX11_findInVoice 4 = .ok (.getfield 116, 3) := by decide +kernel
theorem dX11_findInVoice_7 : decode cX11_findInVoice 7 = .ok (.if_icmp .ge 19, 3) := by decide +kernel
theorem dX11_findInVoice_10 : decode cX11_findInVoice 10 = .ok (.aload_n 0, 1) := by decide +kernel
theorem dX11_findInVoice_11 : decode cX11_findInVoice 11 = .ok (.aload_n 1, 1) := by decide +kernel
theorem dX11_findInVoice_12 : decode cX11_findInVoice 12 = .ok (.getfield 224, 3) := by decide +kernel
theorem dX11_findInVoice_15 : decode cX11_findInVoice 15 = .ok (.iload_n 2, 1) := by decide +kernel
theorem dX11_findInVoice_16 : decode cX11_findInVoice 16 = .ok (.aaload, 1) := by decide +kernel
theorem dX11_findInVoice_17 : decode cX11_findInVoice 17 = .ok (.invokevirtual 481, 3) := by decide +kernel
theorem dX11_findInVoice_20 : decode cX11_findInVoice 20 = .ok (.iinc 2 1, 3) := by decide +kernel
theorem dX11_findInVoice_23 : decode cX11_findInVoice 23 = .ok (.goto (-21), 3) := by decide +kernel
theorem dX11_findInVoice_26 : decode cX11_findInVoice 26 = .ok (.aload_n 1, 1) := by decide +kernel
theorem dX11_findInVoice_27 : decode cX11_findInVoice 27 = .ok (.getfield 116, 3) := by decide +kernel
theorem dX11_findInVoice_30 : decode cX11_findInVoice 30 = .ok (.ifCond .le 29, 3) := by decide +kernel
theorem dX11_findInVoice_33 : decode cX11_findInVoice 33 = .ok (.aload_n 1, 1) := by decide +kernel
theorem dX11_findInVoice_34 : decode cX11_findInVoice 34 = .ok (.getfield 264, 3) := by decide +kernel
theorem dX11_findInVoice_37 : decode cX11_findInVoice 37 = .ok (.aload_n 0, 1) := by decide +kernel
theorem dX11_findInVoice_38 : decode cX11_findInVoice 38 = .ok (.aload_n 0, 1) := by decide +kernel
theorem dX11_findInVoice_39 : decode cX11_findInVoice 39 = .ok (.getfield 29, 3) := by decide +kernel
theorem dX11_findInVoice_42 : decode cX11_findInVoice 42 = .ok (.invokevirtual 106, 3) := by decide +kernel
theorem dX11_findInVoice_45 : decode cX11_findInVoice 45 = .ok (.lcmp, 1) := by decide +kernel
theorem dX11_findInVoice_46 : decode cX11_findInVoice 46 = .ok (.ifCond .ge 13, 3) := by decide +kernel
theorem dX11_findInVoice_49 : decode cX11_findInVoice 49 = .ok (.aload_n 0, 1) := by decide +kernel
theorem dX11_findInVoice_50 : decode cX11_findInVoice 50 = .ok (.iconst 3, 1) := by decide +kernel
theorem dX11_findInVoice_51 : decode cX11_findInVoice 51 = .ok (.aload_n 1, 1) := by decide +kernel
theorem dX11_findInVoice_52 : decode cX11_findInVoice 52 = .ok (.getfield 235, 3) := by decide +kernel
theorem dX11_findInVoice_55 : decode cX11_findInVoice 55 = .ok (.iconst (-1), 1) := by decide +kernel
theorem dX11_findInVoice_56 : decode cX11_findInVoice 56 = .ok (.invokevirtual 338, 3) := by decide +kernel
theorem dX11_findInVoice_59 : decode cX11_findInVoice 59 = .ok (.aload_n 1, 1) := by decide +kernel
theorem dX11_findInVoice_60 : decode cX11_findInVoice 60 = .ok (.getfield 116, 3) := by decide +kernel
theorem dX11_findInVoice_63 : decode cX11_findInVoice 63 = .ok (.ifCond .le 29, 3) := by decide +kernel
theorem dX11_findInVoice_66 : decode cX11_findInVoice 66 = .ok (.aload_n 1, 1) := by decide +kernel
theorem dX11_findInVoice_67 : decode cX11_findInVoice 67 = .ok (.getfield 264, 3) := by decide +kernel
theorem dX11_findInVoice_70 : decode cX11_findInVoice 70 = .ok (.aload_n 0, 1) := by decide +kernel
theorem dX11_findInVoice_71 : decode cX11_findInVoice 71 = .ok (.aload_n 0, 1) := by decide +kernel
theorem dX11_findInVoice_72 : decode cX11_findInVoice 72 = .ok (.getfield 29, 3) := by decide +kernel
theorem dX11_findInVoice_75 : decode cX11_findInVoice 75 = .ok (.invokevirtual 106, 3) := by decide +kernel
theorem dX11_findInVoice_78 : decode cX11_findInVoice 78 = .ok (.lcmp, 1) := by decide +kernel
theorem dX11_findInVoice_79 : decode cX11_findInVoice 79 = .ok (.ifCond .le 13, 3) := by decide +kernel
theorem dX11_findInVoice_82 : decode cX11_findInVoice 82 = .ok (.aload_n 0, 1) := by decide +kernel
theorem dX11_findInVoice_83 : decode cX11_findInVoice 83 = .ok (.iconst 4, 1) := by decide +kernel
theorem dX11_findInVoice_84 : decode cX11_findInVoice 84 = .ok (.aload_n 1, 1) := by decide +kernel
theorem dX11_findInVoice_85 : decode cX11_findInVoice 85 = .ok (.getfield 235, 3) := by decide +kernel
theorem dX11_findInVoice_88 : decode cX11_findInVoice 88 = .ok (.iconst (-1), 1) := by decide +kernel
theorem dX11_findInVoice_89 : decode cX11_findInVoice 89 = .ok (.invokevirtual 338, 3) := by decide +kernel
theorem dX11_findInVoice_92 : decode cX11_findInVoice 92 = .ok (.return_, 1) := by decide +kernel
theorem dX11_findInEvent_0 : decode cX11_findInEvent 0 = .ok (.aload_n 0, 1) := by decide +kernel
theorem dX11_findInEvent_1 : decode cX11_findInEvent 1 = .ok (.aload_n 1, 1) := by decide +kernel
theorem dX11_findInEvent_2 : decode cX11_findInEvent 2 = .ok (.getfield 240, 3) := by decide +kernel
theorem dX11_findInEvent_5 : decode cX11_findInEvent 5 = .ok (.invokevirtual 244, 3) := by decide +kernel
theorem dX11_findInEvent_8 : decode cX11_findInEvent 8 = .ok (.istore_n 2, 1) := by decide +kernel
theorem dX11_findInEvent_9 : decode cX11_findInEvent 9 = .ok (.iload_n 2, 1) := by decide +kernel
theorem dX11_findInEvent_10 : decode cX11_findInEvent 10 = .ok (.iconst (-1), 1) := by decide +kernel
theorem dX11_findInEvent_11 : decode cX11_findInEvent 11 = .ok (.if_icmp .eq 32, 3) := by decide +kernel
theorem dX11_findInEvent_14 : decode cX11_findInEvent 14 = .ok (.aload_n 1, 1) := by decide +kernel
theorem dX11_findInEvent_15 : decode cX11_findInEvent 15 = .ok (.getfield 240, 3) := by decide +kernel
theorem dX11_findInEvent_18 : decode cX11_findInEvent 18 = .ok (.aload_n 1, 1) := by decide +kernel
theorem dX11_findInEvent_19 : decode cX11_findInEvent 19 = .ok (.getfield 258, 3) := by decide +kernel
theorem dX11_findInEvent_22 : decode cX11_findInEvent 22 = .ok (.ladd, 1) := by decide +kernel
theorem dX11_findInEvent_23 : decode cX11_findInEvent 23 = .ok (.aload_n 0, 1) := by decide +kernel
theorem dX11_findInEvent_24 : decode cX11_findInEvent 24 = .ok (.getfield 25, 3) := by decide +kernel
theorem dX11_findInEvent_27 : decode cX11_findInEvent 27 = .ok (.iload_n 2, 1) := by decide +kernel
theorem dX11_findInEvent_28 : decode cX11_findInEvent 28 = .ok (.laload, 1) := by decide +kernel
theorem dX11_findInEvent_29 : decode cX11_findInEvent 29 = .ok (.lcmp, 1) := by decide +kernel
theorem dX11_findInEvent_30 : decode cX11_findInEvent 30 = .ok (.ifCond .le 13, 3) := by decide +kernel
theorem dX11_findInEvent_33 : decode cX11_findInEvent 33 = .ok (.aload_n 0, 1) := by decide +kernel
theorem dX11_findInEvent_34 : decode cX11_findInEvent 34 = .ok (.iconst 0, 1) := by decide +kernel
theorem dX11_findInEvent_35 : decode cX11_findInEvent 35 = .ok (.aload_n 1, 1) := by decide +kernel
theorem dX11_findInEvent_36 : decode cX11_findInEvent 36 = .ok (.getfield 152, 3) := by decide +kernel
theorem dX11_findInEvent_39 : decode cX11_findInEvent 39 = .ok (.iload_n 2, 1) := by decide +kernel
theorem dX11_findInEvent_40 : decode cX11_findInEvent 40 = .ok (.invokevirtual 338, 3) := by decide +kernel
theorem dX11_findInEvent_43 : decode cX11_findInEvent 43 = .ok (.aload_n 1, 1) := by decide +kernel
theorem dX11_findInEvent_44 : decode cX11_findInEvent 44 = .ok (.getfield 225, 3) := by decide +kernel
theorem dX11_findInEvent_47 : decode cX11_findInEvent 47 = .ok (.ifCond .eq 20, 3) := by decide +kernel
theorem dX11_findInEvent_50 : decode cX11_findInEvent 50 = .ok (.aload_n 1, 1) := by decide +kernel
theorem dX11_findInEvent_51 : decode cX11_findInEvent 51 = .ok (.invokestatic 484, 3) := by decide +kernel
theorem dX11_findInEvent_54 : decode cX11_findInEvent 54 = .ok (.ifCond .ne 13, 3) := by decide +kernel
theorem dX11_findInEvent_57 : decode cX11_findInEvent 57 = .ok (.aload_n 0, 1) := by decide +kernel
theorem dX11_findInEvent_58 : decode cX11_findInEvent 58 = .ok (.iconst 1, 1) := by decide +kernel
theorem dX11_findInEvent_59 : decode cX11_findInEvent 59 = .ok (.aload_n 1, 1) := by decide +kernel
theorem dX11_findInEvent_60 : decode cX11_findInEvent 60 = .ok (.getfield 152, 3) := by decide +kernel
theorem dX11_findInEvent_63 : decode cX11_findInEvent 63 = .ok (.iconst (-1), 1) := by decide +kernel
theorem dX11_findInEvent_64 : decode cX11_findInEvent 64 = .ok (.invokevirtual 338, 3) := by decide +kernel
theorem dX11_findInEvent_67 : decode cX11_findInEvent 67 = .ok (.aload_n 0, 1) := by decide +kernel
theorem dX11_findInEvent_68 : decode cX11_findInEvent 68 = .ok (.aload_n 1, 1) := by decide +kernel
theorem dX11_findInEvent_69 : decode cX11_findInEvent 69 = .ok (.invokevirtual 487, 3) := by decide +kernel
theorem dX11_findInEvent_72 : decode cX11_findInEvent 72 = .ok (.ifCond .eq 13, 3) := by decide +kernel
theorem dX11_findInEvent_75 : decode cX11_findInEvent 75 = .ok (.aload_n 0, 1) := by decide +kernel
theorem dX11_findInEvent_76 : decode cX11_findInEvent 76 = .ok (.iconst 2, 1) := by decide +kernel
theorem dX11_findInEvent_77 : decode cX11_findInEvent 77 = .ok (.aload_n 1, 1) := by decide +kernel
theorem dX11_findInEvent_78 : decode cX11_findInEvent 78 = .ok (.getfield 152, 3) := by decide +kernel
theorem dX11_findInEvent_81 : decode cX11_findInEvent 81 = .ok (.iconst (-1), 1) := by decide +kernel
theorem dX11_findInEvent_82 : decode cX11_findInEvent 82 = .ok (.invokevirtual 338, 3) := by decide +kernel
theorem dX11_findInEvent_85 : decode cX11_findInEvent 85 = .ok (.return_, 1) := by decide +kernel
theorem dX11_tieIsMet_0 : decode cX11_tieIsMet 0 = .ok (.aload_n 0, 1) := by decide +kernel
theorem dX11_tieIsMet_1 : decode cX11_tieIsMet 1 = .ok (.getfield 162, 3) := by decide +kernel
theorem dX11_tieIsMet_4 : decode cX11_tieIsMet 4 = .ok (.aload_n 0, 1) := by decide +kernel
theorem dX11_tieIsMet_5 : decode cX11_tieIsMet 5 = .ok (.getfield 159, 3) := by decide +kernel
theorem dX11_tieIsMet_8 : decode cX11_tieIsMet 8 = .ok (.iconst 1, 1) := by decide +kernel
theorem dX11_tieIsMet_9 : decode cX11_tieIsMet 9 = .ok (.iadd, 1) := by decide +kernel
theorem dX11_tieIsMet_10 : decode cX11_tieIsMet 10 = .ok (.invokevirtual 490, 3) := by decide +kernel
theorem dX11_tieIsMet_13 : decode cX11_tieIsMet 13 = .ok (.astore_n 1, 1) := by decide +kernel
theorem dX11_tieIsMet_14 : decode cX11_tieIsMet 14 = .ok (.aload_n 1, 1) := by decide +kernel
theorem dX11_tieIsMet_15 : decode cX11_tieIsMet 15 = .ok (.ifnull 22, 3) := by decide +kernel
theorem dX11_tieIsMet_18 : decode cX11_tieIsMet 18 = .ok (.aload_n 1, 1) := by decide +kernel
theorem dX11_tieIsMet_19 : decode cX11_tieIsMet 19 = .ok (.invokevirtual 193, 3) := by decide +kernel
theorem dX11_tieIsMet_22 : decode cX11_tieIsMet 22 = .ok (.ifCond .eq 15, 3) := by decide +kernel
theorem dX11_tieIsMet_25 : decode cX11_tieIsMet 25 = .ok (.aload_n 1, 1) := by decide +kernel
theorem dX11_tieIsMet_26 : decode cX11_tieIsMet 26 = .ok (.aload_n 0, 1) := by decide +kernel
theorem dX11_tieIsMet_27 : decode cX11_tieIsMet 27 = .ok (.invokevirtual 493, 3) := by decide +kernel
theorem dX11_tieIsMet_30 : decode cX11_tieIsMet 30 = .ok (.ifCond .eq 7, 3) := by decide +kernel
theorem dX11_tieIsMet_33 : decode cX11_tieIsMet 33 = .ok (.iconst 1, 1) := by decide +kernel
theorem dX11_tieIsMet_34 : decode cX11_tieIsMet 34 = .ok (.goto 4, 3) := by decide +kernel
theorem dX11_tieIsMet_37 : decode cX11_tieIsMet 37 = .ok (.iconst 0, 1) := by decide +kernel
theorem dX11_tieIsMet_38 : decode cX11_tieIsMet 38 = .ok (.ireturn, 1) := by decide +kernel
theorem dX11_isOutOfRange_0 : decode cX11_isOutOfRange 0 = .ok (.aload_n 1, 1) := by decide +kernel
theorem dX11_isOutOfRange_1 : decode cX11_isOutOfRange 1 = .ok (.getfield 162, 3) := by decide +kernel
theorem dX11_isOutOfRange_4 : decode cX11_isOutOfRange 4 = .ok (.getfield 210, 3) := by decide +kernel
theorem dX11_isOutOfRange_7 : decode cX11_isOutOfRange 7 = .ok (.astore_n 2, 1) := by decide +kernel
theorem dX11_isOutOfRange_8 : decode cX11_isOutOfRange 8 = .ok (.aload_n 0, 1) := by decide +kernel
theorem dX11_isOutOfRange_9 : decode cX11_isOutOfRange 9 = .ok (.aload_n 1, 1) := by decide +kernel
theorem dX11_isOutOfRange_10 : decode cX11_isOutOfRange 10 = .ok (.invokevirtual 217, 3) := by decide +kernel
theorem dX11_isOutOfRange_13 : decode cX11_isOutOfRange 13 = .ok (.istore_n 3, 1) := by decide +kernel
theorem dX11_isOutOfRange_14 : decode cX11_isOutOfRange 14 = .ok (.iconst 0, 1) := by decide +kernel
theorem dX11_isOutOfRange_15 : decode cX11_isOutOfRange 15 = .ok (.istore 4, 2) := by decide +kernel
theorem dX11_isOutOfRange_17 : decode cX11_isOutOfRange 17 = .ok (.iload 4, 2) := by decide +kernel
theorem dX11_isOutOfRange_19 : decode cX11_isOutOfRange 19 = .ok (.aload_n 1, 1) := by decide +kernel
theorem dX11_isOutOfRange_20 : decode cX11_isOutOfRange 20 = .ok (.getfield 190, 3) := by decide +kernel
theorem dX11_isOutOfRange_23 : decode cX11_isOutOfRange 23 = .ok (.if_icmp .ge 44, 3) := by decide +kernel
theorem dX11_isOutOfRange_26 : decode cX11_isOutOfRange 26 = .ok (.aload_n 2, 1) := by decide +kernel
theorem dX11_isOutOfRange_27 : decode cX11_isOutOfRange 27 = .ok (.aload_n 1, 1) := by decide +kernel
theorem dX11_isOutOfRange_28 : decode cX11_isOutOfRange 28 = .ok (.getfield 200, 3) := by decide +kernel
theorem dX11_isOutOfRange_31 : decode cX11_isOutOfRange 31 = .ok (.iload 4, 2) := by decide +kernel
theorem dX11_isOutOfRange_33 : decode cX11_isOutOfRange 33 = .ok (.iaload, 1) := by decide +kernel
theorem dX11_isOutOfRange_34 : decode cX11_isOutOfRange 34 = .ok (.invokevirtual 214, 3) := by decide +kernel
theorem dX11_isOutOfRange_37 : decode cX11_isOutOfRange 37 = .ok (.iload_n 3, 1) := by decide +kernel
theorem dX11_isOutOfRange_38 : decode cX11_isOutOfRange 38 = .ok (.iadd, 1) := by decide +kernel
theorem dX11_isOutOfRange_39 : decode cX11_isOutOfRange 39 = .ok (.istore 5, 2) := by decide +kernel
theorem dX11_isOutOfRange_41 : decode cX11_isOutOfRange 41 = .ok (.iload 5, 2) := by decide +kernel
theorem dX11_isOutOfRange_43 : decode cX11_isOutOfRange 43 = .ok (.aload_n 2, 1) := by decide +kernel
theorem dX11_isOutOfRange_44 : decode cX11_isOutOfRange 44 = .ok (.invokevirtual 268, 3) := by decide +kernel
theorem dX11_isOutOfRange_47 : decode cX11_isOutOfRange 47 = .ok (.if_icmp .lt 12, 3) := by decide +kernel
theorem dX11_isOutOfRange_50 : decode cX11_isOutOfRange 50 = .ok (.iload 5, 2) := by decide +kernel
theorem dX11_isOutOfRange_52 : decode cX11_isOutOfRange 52 = .ok (.aload_n 2, 1) := by decide +kernel
theorem dX11_isOutOfRange_53 : decode cX11_isOutOfRange 53 = .ok (.invokevirtual 271, 3) := by decide +kernel
theorem dX11_isOutOfRange_56 : decode cX11_isOutOfRange 56 = .ok (.if_icmp .le 5, 3) := by decide +kernel
theorem dX11_isOutOfRange_59 : decode cX11_isOutOfRange 59 = .ok (.iconst 1, 1) := by decide +kernel
theorem dX11_isOutOfRange_60 : decode cX11_isOutOfRange 60 = .ok (.ireturn, 1) := by decide +kernel
theorem dX11_isOutOfRange_61 : decode cX11_isOutOfRange 61 = .ok (.iinc 4 1, 3) := by decide +kernel
theorem dX11_isOutOfRange_64 : decode cX11_isOutOfRange 64 = .ok (.goto (-47), 3) := by decide +kernel
theorem dX11_isOutOfRange_67 : decode cX11_isOutOfRange 67 = .ok (.iconst 0, 1) := by decide +kernel
theorem dX11_isOutOfRange_68 : decode cX11_isOutOfRange 68 = .ok (.ireturn, 1) := by decide +kernel
theorem dX11_findInLine_0 : decode cX11_findInLine 0 = .ok (.aload_n 1, 1) := by decide +kernel
theorem dX11_findInLine_1 : decode cX11_findInLine 1 = .ok (.getfield 317, 3) := by decide +kernel
theorem dX11_findInLine_4 : decode cX11_findInLine 4 = .ok (.ifnonnull 14, 3) := by decide +kernel
theorem dX11_findInLine_7 : decode cX11_findInLine 7 = .ok (.aload_n 0, 1) := by decide +kernel
theorem dX11_findInLine_8 : decode cX11_findInLine 8 = .ok (.bipush 6, 2) := by decide +kernel
theorem dX11_findInLine_10 : decode cX11_findInLine 10 = .ok (.iload_n 2, 1) := by decide +kernel
theorem dX11_findInLine_11 : decode cX11_findInLine 11 = .ok (.iconst (-1), 1) := by decide +kernel
theorem dX11_findInLine_12 : decode cX11_findInLine 12 = .ok (.invokevirtual 338, 3) := by decide +kernel
theorem dX11_findInLine_15 : decode cX11_findInLine 15 = .ok (.goto 29, 3) := by decide +kernel
theorem dX11_findInLine_18 : decode cX11_findInLine 18 = .ok (.aload_n 1, 1) := by decide +kernel
theorem dX11_findInLine_19 : decode cX11_findInLine 19 = .ok (.getfield 317, 3) := by decide +kernel
theorem dX11_findInLine_22 : decode cX11_findInLine 22 = .ok (.getfield 240, 3) := by decide +kernel
theorem dX11_findInLine_25 : decode cX11_findInLine 25 = .ok (.aload_n 1, 1) := by decide +kernel
theorem dX11_findInLine_26 : decode cX11_findInLine 26 = .ok (.getfield 322, 3) := by decide +kernel
theorem dX11_findInLine_29 : decode cX11_findInLine 29 = .ok (.getfield 240, 3) := by decide +kernel
theorem dX11_findInLine_32 : decode cX11_findInLine 32 = .ok (.lcmp, 1) := by decide +kernel
theorem dX11_findInLine_33 : decode cX11_findInLine 33 = .ok (.ifCond .ge 11, 3) := by decide +kernel
theorem dX11_findInLine_36 : decode cX11_findInLine 36 = .ok (.aload_n 0, 1) := by decide +kernel
theorem dX11_findInLine_37 : decode cX11_findInLine 37 = .ok (.bipush 7, 2) := by decide +kernel
theorem dX11_findInLine_39 : decode cX11_findInLine 39 = .ok (.iload_n 2, 1) := by decide +kernel
theorem dX11_findInLine_40 : decode cX11_findInLine 40 = .ok (.iconst (-1), 1) := by decide +kernel
theorem dX11_findInLine_41 : decode cX11_findInLine 41 = .ok (.invokevirtual 338, 3) := by decide +kernel
theorem dX11_findInLine_44 : decode cX11_findInLine 44 = .ok (.return_, 1) := by decide +kernel
theorem dX11_addFinding_0 : decode cX11_addFinding 0 = .ok (.aload_n 0, 1) := by decide +kernel
theorem dX11_addFinding_1 : decode cX11_addFinding 1 = .ok (.getfield 69, 3) := by decide +kernel
theorem dX11_addFinding_4 : decode cX11_addFinding 4 = .ok (.bipush 100, 2) := by decide +kernel
theorem dX11_addFinding_6 : decode cX11_addFinding 6 = .ok (.if_icmp .ge 39, 3) := by decide +kernel
theorem dX11_addFinding_9 : decode cX11_addFinding 9 = .ok (.aload_n 0, 1) := by decide +kernel
theorem dX11_addFinding_10 : decode cX11_addFinding 10 = .ok (.getfield 69, 3) := by decide +kernel
theorem dX11_addFinding_13 : decode cX11_addFinding 13 = .ok (.iconst 3, 1) := by decide +kernel
theorem dX11_addFinding_14 : decode cX11_addFinding 14 = .ok (.imul, 1) := by decide +kernel
theorem dX11_addFinding_15 : decode cX11_addFinding 15 = .ok (.istore 4, 2) := by decide +kernel
theorem dX11_addFinding_17 : decode cX11_addFinding 17 = .ok (.aload_n 0, 1) := by decide +kernel
theorem dX11_addFinding_18 : decode cX11_addFinding 18 = .ok (.getfield 66, 3) := by decide +kernel
theorem dX11_addFinding_21 : decode cX11_addFinding 21 = .ok (.iload 4, 2) := by decide +kernel
theorem dX11_addFinding_23 : decode cX11_addFinding 23 = .ok (.iload_n 1, 1) := by decide +kernel
theorem dX11_addFinding_24 : decode cX11_addFinding 24 = .ok (.iastore, 1) := by decide +kernel
theorem dX11_addFinding_25 : decode cX11_addFinding 25 = .ok (.aload_n 0, 1) := by decide +kernel
theorem dX11_addFinding_26 : decode cX11_addFinding 26 = .ok (.getfield 66, 3) := by decide +kernel
theorem dX11_addFinding_29 : decode cX11_addFinding 29 = .ok (.iload 4, 2) := by decide +kernel
theorem dX11_addFinding_31 : decode cX11_addFinding 31 = .ok (.iconst 1, 1) := by decide +kernel
theorem dX11_addFinding_32 : decode cX11_addFinding 32 = .ok (.iadd, 1) := by decide +kernel
theorem dX11_addFinding_33 : decode cX11_addFinding 33 = .ok (.iload_n 2, 1) := by decide +kernel
theorem dX11_addFinding_34 : decode cX11_addFinding 34 = .ok (.iastore, 1) := by decide +kernel
theorem dX11_addFinding_35 : decode cX11_addFinding 35 = .ok (.aload_n 0, 1) := by decide +kernel
theorem dX11_addFinding_36 : decode cX11_addFinding 36 = .ok (.getfield 66, 3) := by decide +kernel
theorem dX11_addFinding_39 : decode cX11_addFinding 39 = .ok (.iload 4, 2) := by decide +kernel
theorem dX11_addFinding_41 : decode cX11_addFinding 41 = .ok (.iconst 2, 1) := by decide +kernel
theorem dX11_addFinding_42 : decode cX11_addFinding 42 = .ok (.iadd, 1) := by decide +kernel
theorem dX11_addFinding_43 : decode cX11_addFinding 43 = .ok (.iload_n 3, 1) := by decide +kernel
theorem dX11_addFinding_44 : decode cX11_addFinding 44 = .ok (.iastore, 1) := by decide +kernel
theorem dX11_addFinding_45 : decode cX11_addFinding 45 = .ok (.aload_n 0, 1) := by decide +kernel
theorem dX11_addFinding_46 : decode cX11_addFinding 46 = .ok (.dup, 1) := by decide +kernel
theorem dX11_addFinding_47 : decode cX11_addFinding 47 = .ok (.getfield 69, 3) := by decide +kernel
theorem dX11_addFinding_50 : decode cX11_addFinding 50 = .ok (.iconst 1, 1) := by decide +kernel
theorem dX11_addFinding_51 : decode cX11_addFinding 51 = .ok (.iadd, 1) := by decide +kernel
theorem dX11_addFinding_52 : decode cX11_addFinding 52 = .ok (.putfield 69, 3) := by decide +kernel
theorem dX11_addFinding_55 : decode cX11_addFinding 55 = .ok (.return_, 1) := by decide +kernel
theorem dX11_rackTakes_0 : decode cX11_rackTakes 0 = .ok (.iload_n 0, 1) := by decide +kernel
theorem dX11_rackTakes_1 : decode cX11_rackTakes 1 = .ok (.lookupswitch 55 #[(0, 37), (3, 42), (5, 35)], 35) := by decide +kernel
theorem dX11_rackTakes_36 : decode cX11_rackTakes 36 = .ok (.iconst 1, 1) := by decide +kernel
theorem dX11_rackTakes_37 : decode cX11_rackTakes 37 = .ok (.ireturn, 1) := by decide +kernel
theorem dX11_rackTakes_38 : decode cX11_rackTakes 38 = .ok (.aload_n 1, 1) := by decide +kernel
theorem dX11_rackTakes_39 : decode cX11_rackTakes 39 = .ok (.invokevirtual 193, 3) := by decide +kernel
theorem dX11_rackTakes_42 : decode cX11_rackTakes 42 = .ok (.ireturn, 1) := by decide +kernel
theorem dX11_rackTakes_43 : decode cX11_rackTakes 43 = .ok (.aload_n 1, 1) := by decide +kernel
theorem dX11_rackTakes_44 : decode cX11_rackTakes 44 = .ok (.invokevirtual 193, 3) := by decide +kernel
theorem dX11_rackTakes_47 : decode cX11_rackTakes 47 = .ok (.ifCond .ne 7, 3) := by decide +kernel
theorem dX11_rackTakes_50 : decode cX11_rackTakes 50 = .ok (.iconst 1, 1) := by decide +kernel
theorem dX11_rackTakes_51 : decode cX11_rackTakes 51 = .ok (.goto 4, 3) := by decide +kernel
theorem dX11_rackTakes_54 : decode cX11_rackTakes 54 = .ok (.iconst 0, 1) := by decide +kernel
theorem dX11_rackTakes_55 : decode cX11_rackTakes 55 = .ok (.ireturn, 1) := by decide +kernel
theorem dX11_rackTakes_56 : decode cX11_rackTakes 56 = .ok (.aload_n 1, 1) := by decide +kernel
theorem dX11_rackTakes_57 : decode cX11_rackTakes 57 = .ok (.getfield 177, 3) := by decide +kernel
theorem dX11_rackTakes_60 : decode cX11_rackTakes 60 = .ok (.iload_n 0, 1) := by decide +kernel
theorem dX11_rackTakes_61 : decode cX11_rackTakes 61 = .ok (.if_icmp .ne 7, 3) := by decide +kernel
theorem dX11_rackTakes_64 : decode cX11_rackTakes 64 = .ok (.iconst 1, 1) := by decide +kernel
theorem dX11_rackTakes_65 : decode cX11_rackTakes 65 = .ok (.goto 4, 3) := by decide +kernel
theorem dX11_rackTakes_68 : decode cX11_rackTakes 68 = .ok (.iconst 0, 1) := by decide +kernel
theorem dX11_rackTakes_69 : decode cX11_rackTakes 69 = .ok (.ireturn, 1) := by decide +kernel
theorem dX11_lowestBits_0 : decode cX11_lowestBits 0 = .ok (.iload_n 0, 1) := by decide +kernel
theorem dX11_lowestBits_1 : decode cX11_lowestBits 1 = .ok (.tableswitch 36 0 2 #[27, 30, 33], 27) := by decide +kernel
theorem dX11_lowestBits_28 : decode cX11_lowestBits 28 = .ok (.iload_n 1, 1) := by decide +kernel
theorem dX11_lowestBits_29 : decode cX11_lowestBits 29 = .ok (.i2b, 1) := by decide +kernel
theorem dX11_lowestBits_30 : decode cX11_lowestBits 30 = .ok (.ireturn, 1) := by decide +kernel
theorem dX11_lowestBits_31 : decode cX11_lowestBits 31 = .ok (.iload_n 1, 1) := by decide +kernel
theorem dX11_lowestBits_32 : decode cX11_lowestBits 32 = .ok (.i2s, 1) := by decide +kernel
theorem dX11_lowestBits_33 : decode cX11_lowestBits 33 = .ok (.ireturn, 1) := by decide +kernel
theorem dX11_lowestBits_34 : decode cX11_lowestBits 34 = .ok (.iload_n 1, 1) := by decide +kernel
theorem dX11_lowestBits_35 : decode cX11_lowestBits 35 = .ok (.i2c, 1) := by decide +kernel
theorem dX11_lowestBits_36 : decode cX11_lowestBits 36 = .ok (.ireturn, 1) := by decide +kernel
theorem dX11_lowestBits_37 : decode cX11_lowestBits 37 = .ok (.iload_n 1, 1) := by decide +kernel
theorem dX11_lowestBits_38 : decode cX11_lowestBits 38 = .ok (.ireturn, 1) := by decide +kernel
theorem dX11_layVoice_0 : decode cX11_layVoice 0 = .ok (.aload_n 0, 1) := by decide +kernel
theorem dX11_layVoice_1 : decode cX11_layVoice 1 = .ok (.iload_n 1, 1) := by decide +kernel
theorem dX11_layVoice_2 : decode cX11_layVoice 2 = .ok (.invokevirtual 112, 3) := by decide +kernel
theorem dX11_layVoice_5 : decode cX11_layVoice 5 = .ok (.astore 4, 2) := by decide +kernel
theorem dX11_layVoice_7 : decode cX11_layVoice 7 = .ok (.aload 4, 2) := by decide +kernel
theorem dX11_layVoice_9 : decode cX11_layVoice 9 = .ok (.ifnonnull 10, 3) := by decide +kernel
theorem dX11_layVoice_12 : decode cX11_layVoice 12 = .ok (.aload_n 0, 1) := by decide +kernel
theorem dX11_layVoice_13 : decode cX11_layVoice 13 = .ok (.bipush (-2), 2) := by decide +kernel
theorem dX11_layVoice_15 : decode cX11_layVoice 15 = .ok (.invokevirtual 87, 3) := by decide +kernel
theorem dX11_layVoice_18 : decode cX11_layVoice 18 = .ok (.ireturn, 1) := by decide +kernel
theorem dX11_layVoice_19 : decode cX11_layVoice 19 = .ok (.iconst 0, 1) := by decide +kernel
theorem dX11_layVoice_20 : decode cX11_layVoice 20 = .ok (.istore 5, 2) := by decide +kernel
theorem dX11_layVoice_22 : decode cX11_layVoice 22 = .ok (.iload 5, 2) := by decide +kernel
theorem dX11_layVoice_24 : decode cX11_layVoice 24 = .ok (.aload 4, 2) := by decide +kernel
theorem dX11_layVoice_26 : decode cX11_layVoice 26 = .ok (.getfield 116, 3) := by decide +kernel
theorem dX11_layVoice_29 : decode cX11_layVoice 29 = .ok (.if_icmp .ge 41, 3) := by decide +kernel
theorem dX11_layVoice_32 : decode cX11_layVoice 32 = .ok (.aload 4, 2) := by decide +kernel
theorem dX11_layVoice_34 : decode cX11_layVoice 34 = .ok (.getfield 224, 3) := by decide +kernel
theorem dX11_layVoice_37 : decode cX11_layVoice 37 = .ok (.iload 5, 2) := by decide +kernel
theorem dX11_layVoice_39 : decode cX11_layVoice 39 = .ok (.aaload, 1) := by decide +kernel
theorem dX11_layVoice_40 : decode cX11_layVoice 40 = .ok (.aload_n 2, 1) := by decide +kernel
theorem dX11_layVoice_41 : decode cX11_layVoice 41 = .ok (.iload_n 3, 1) := by decide +kernel
theorem dX11_layVoice_42 : decode cX11_layVoice 42 = .ok (.iload 5, 2) := by decide +kernel
theorem dX11_layVoice_44 : decode cX11_layVoice 44 = .ok (.iadd, 1) := by decide +kernel
theorem dX11_layVoice_45 : decode cX11_layVoice 45 = .ok (.invokestatic 496, 3) := by decide +kernel
theorem dX11_layVoice_48 : decode cX11_layVoice 48 = .ok (.istore 6, 2) := by decide +kernel
theorem dX11_layVoice_50 : decode cX11_layVoice 50 = .ok (.iload 6, 2) := by decide +kernel
theorem dX11_layVoice_52 : decode cX11_layVoice 52 = .ok (.ifCond .eq 12, 3) := by decide +kernel
theorem dX11_layVoice_55 : decode cX11_layVoice 55 = .ok (.aload_n 0, 1) := by decide +kernel
theorem dX11_layVoice_56 : decode cX11_layVoice 56 = .ok (.iload 6, 2) := by decide +kernel
theorem dX11_layVoice_58 : decode cX11_layVoice 58 = .ok (.iload 5, 2) := by decide +kernel
theorem dX11_layVoice_60 : decode cX11_layVoice 60 = .ok (.invokevirtual 207, 3) := by decide +kernel
theorem dX11_layVoice_63 : decode cX11_layVoice 63 = .ok (.ireturn, 1) := by decide +kernel
theorem dX11_layVoice_64 : decode cX11_layVoice 64 = .ok (.iinc 5 1, 3) := by decide +kernel
theorem dX11_layVoice_67 : decode cX11_layVoice 67 = .ok (.goto (-45), 3) := by decide +kernel
theorem dX11_layVoice_70 : decode cX11_layVoice 70 = .ok (.aload_n 0, 1) := by decide +kernel
theorem dX11_layVoice_71 : decode cX11_layVoice 71 = .ok (.aload 4, 2) := by decide +kernel
theorem dX11_layVoice_73 : decode cX11_layVoice 73 = .ok (.getfield 116, 3) := by decide +kernel
theorem dX11_layVoice_76 : decode cX11_layVoice 76 = .ok (.invokevirtual 98, 3) := by decide +kernel
theorem dX11_layVoice_79 : decode cX11_layVoice 79 = .ok (.ireturn, 1) := by decide +kernel
theorem dX11_layRack_0 : decode cX11_layRack 0 = .ok (.iload_n 1, 1) := by decide +kernel
theorem dX11_layRack_1 : decode cX11_layRack 1 = .ok (.invokestatic 359, 3) := by decide +kernel
theorem dX11_layRack_4 : decode cX11_layRack 4 = .ok (.ifCond .ne 10, 3) := by decide +kernel
theorem dX11_layRack_7 : decode cX11_layRack 7 = .ok (.aload_n 0, 1) := by decide +kernel
theorem dX11_layRack_8 : decode cX11_layRack 8 = .ok (.bipush (-2), 2) := by decide +kernel
theorem dX11_layRack_10 : decode cX11_layRack 10 = .ok (.invokevirtual 87, 3) := by decide +kernel
theorem dX11_layRack_13 : decode cX11_layRack 13 = .ok (.ireturn, 1) := by decide +kernel
theorem dX11_layRack_14 : decode cX11_layRack 14 = .ok (.aload_n 0, 1) := by decide +kernel
theorem dX11_layRack_15 : decode cX11_layRack 15 = .ok (.getfield 74, 3) := by decide +kernel
theorem dX11_layRack_18 : decode cX11_layRack 18 = .ok (.iload_n 1, 1) := by decide +kernel
theorem dX11_layRack_19 : decode cX11_layRack 19 = .ok (.aaload, 1) := by decide +kernel
theorem dX11_layRack_20 : decode cX11_layRack 20 = .ok (.astore 4, 2) := by decide +kernel
theorem dX11_layRack_22 : decode cX11_layRack 22 = .ok (.aload 4, 2) := by decide +kernel
theorem dX11_layRack_24 : decode cX11_layRack 24 = .ok (.ifnonnull 11, 3) := by decide +kernel
theorem dX11_layRack_27 : decode cX11_layRack 27 = .ok (.aload_n 0, 1) := by decide +kernel
theorem dX11_layRack_28 : decode cX11_layRack 28 = .ok (.bipush (-11), 2) := by decide +kernel
theorem dX11_layRack_30 : decode cX11_layRack 30 = .ok (.iconst 0, 1) := by decide +kernel
theorem dX11_layRack_31 : decode cX11_layRack 31 = .ok (.invokevirtual 207, 3) := by decide +kernel
theorem dX11_layRack_34 : decode cX11_layRack 34 = .ok (.ireturn, 1) := by decide +kernel
theorem dX11_layRack_35 : decode cX11_layRack 35 = .ok (.iconst 0, 1) := by decide +kernel
theorem dX11_layRack_36 : decode cX11_layRack 36 = .ok (.istore 5, 2) := by decide +kernel
theorem dX11_layRack_38 : decode cX11_layRack 38 = .ok (.iload 5, 2) := by decide +kernel
theorem dX11_layRack_40 : decode cX11_layRack 40 = .ok (.aload 4, 2) := by decide +kernel
theorem dX11_layRack_42 : decode cX11_layRack 42 = .ok (.getfield 372, 3) := by decide +kernel
theorem dX11_layRack_45 : decode cX11_layRack 45 = .ok (.arraylength, 1) := by decide +kernel
theorem dX11_layRack_46 : decode cX11_layRack 46 = .ok (.if_icmp .ge 45, 3) := by decide +kernel
theorem dX11_layRack_49 : decode cX11_layRack 49 = .ok (.aload_n 0, 1) := by decide +kernel
theorem dX11_layRack_50 : decode cX11_layRack 50 = .ok (.aload 4, 2) := by decide +kernel
theorem dX11_layRack_52 : decode cX11_layRack 52 = .ok (.getfield 372, 3) := by decide +kernel
theorem dX11_layRack_55 : decode cX11_layRack 55 = .ok (.iload 5, 2) := by decide +kernel
theorem dX11_layRack_57 : decode cX11_layRack 57 = .ok (.iaload, 1) := by decide +kernel
theorem dX11_layRack_58 : decode cX11_layRack 58 = .ok (.invokevirtual 155, 3) := by decide +kernel
theorem dX11_layRack_61 : decode cX11_layRack 61 = .ok (.aload_n 2, 1) := by decide +kernel
theorem dX11_layRack_62 : decode cX11_layRack 62 = .ok (.iload_n 3, 1) := by decide +kernel
theorem dX11_layRack_63 : decode cX11_layRack 63 = .ok (.iload 5, 2) := by decide +kernel
theorem dX11_layRack_65 : decode cX11_layRack 65 = .ok (.iadd, 1) := by decide +kernel
theorem dX11_layRack_66 : decode cX11_layRack 66 = .ok (.invokestatic 496, 3) := by decide +kernel
theorem dX11_layRack_69 : decode cX11_layRack 69 = .ok (.istore 6, 2) := by decide +kernel
theorem dX11_layRack_71 : decode cX11_layRack 71 = .ok (.iload 6, 2) := by decide +kernel
theorem dX11_layRack_73 : decode cX11_layRack 73 = .ok (.ifCond .eq 12, 3) := by decide +kernel
theorem dX11_layRack_76 : decode cX11_layRack 76 = .ok (.aload_n 0, 1) := by decide +kernel
theorem dX11_layRack_77 : decode cX11_layRack 77 = .ok (.iload 6, 2) := by decide +kernel
theorem dX11_layRack_79 : decode cX11_layRack 79 = .ok (.iload 5, 2) := by decide +kernel
theorem dX11_layRack_81 : decode cX11_layRack 81 = .ok (.invokevirtual 207, 3) := by decide +kernel
theorem dX11_layRack_84 : decode cX11_layRack 84 = .ok (.ireturn, 1) := by decide +kernel
theorem dX11_layRack_85 : decode cX11_layRack 85 = .ok (.iinc 5 1, 3) := by decide +kernel
theorem dX11_layRack_88 : decode cX11_layRack 88 = .ok (.goto (-50), 3) := by decide +kernel
theorem dX11_layRack_91 : decode cX11_layRack 91 = .ok (.aload_n 0, 1) := by decide +kernel
theorem dX11_layRack_92 : decode cX11_layRack 92 = .ok (.aload 4, 2) := by decide +kernel
theorem dX11_layRack_94 : decode cX11_layRack 94 = .ok (.getfield 372, 3) := by decide +kernel
theorem dX11_layRack_97 : decode cX11_layRack 97 = .ok (.arraylength, 1) := by decide +kernel
theorem dX11_layRack_98 : decode cX11_layRack 98 = .ok (.invokevirtual 98, 3) := by decide +kernel
theorem dX11_layRack_101 : decode cX11_layRack 101 = .ok (.ireturn, 1) := by decide +kernel
theorem dX11_layOne_0 : decode cX11_layOne 0 = .ok (.aload_n 0, 1) := by decide +kernel
theorem dX11_layOne_1 : decode cX11_layOne 1 = .ok (.ifnonnull 6, 3) := by decide +kernel
theorem dX11_layOne_4 : decode cX11_layOne 4 = .ok (.bipush (-11), 2) := by decide +kernel
theorem dX11_layOne_6 : decode cX11_layOne 6 = .ok (.ireturn, 1) := by decide +kernel
theorem dX11_layOne_7 : decode cX11_layOne 7 = .ok (.aload_n 0, 1) := by decide +kernel
theorem dX11_layOne_8 : decode cX11_layOne 8 = .ok (.invokevirtual 193, 3) := by decide +kernel
theorem dX11_layOne_11 : decode cX11_layOne 11 = .ok (.ifCond .ne 6, 3) := by decide +kernel
theorem dX11_layOne_14 : decode cX11_layOne 14 = .ok (.bipush (-13), 2) := by decide +kernel
theorem dX11_layOne_16 : decode cX11_layOne 16 = .ok (.ireturn, 1) := by decide +kernel
theorem dX11_layOne_17 : decode cX11_layOne 17 = .ok (.aload_n 1, 1) := by decide +kernel
theorem dX11_layOne_18 : decode cX11_layOne 18 = .ok (.ifnonnull 6, 3) := by decide +kernel
theorem dX11_layOne_21 : decode cX11_layOne 21 = .ok (.bipush (-11), 2) := by decide +kernel
theorem dX11_layOne_23 : decode cX11_layOne 23 = .ok (.ireturn, 1) := by decide +kernel
theorem dX11_layOne_24 : decode cX11_layOne 24 = .ok (.aload_n 1, 1) := by decide +kernel
theorem dX11_layOne_25 : decode cX11_layOne 25 = .ok (.iload_n 2, 1) := by decide +kernel
theorem dX11_layOne_26 : decode cX11_layOne 26 = .ok (.invokevirtual 364, 3) := by decide +kernel
theorem dX11_layOne_29 : decode cX11_layOne 29 = .ok (.ifCond .ne 6, 3) := by decide +kernel
theorem dX11_layOne_32 : decode cX11_layOne 32 = .ok (.bipush (-12), 2) := by decide +kernel
theorem dX11_layOne_34 : decode cX11_layOne 34 = .ok (.ireturn, 1) := by decide +kernel
theorem dX11_layOne_35 : decode cX11_layOne 35 = .ok (.aload_n 1, 1) := by decide +kernel
theorem dX11_layOne_36 : decode cX11_layOne 36 = .ok (.getfield 372, 3) := by decide +kernel
theorem dX11_layOne_39 : decode cX11_layOne 39 = .ok (.iload_n 2, 1) := by decide +kernel
theorem dX11_layOne_40 : decode cX11_layOne 40 = .ok (.aload_n 1, 1) := by decide +kernel
theorem dX11_layOne_41 : decode cX11_layOne 41 = .ok (.getfield 367, 3) := by decide +kernel
theorem dX11_layOne_44 : decode cX11_layOne 44 = .ok (.aload_n 0, 1) := by decide +kernel
theorem dX11_layOne_45 : decode cX11_layOne 45 = .ok (.invokevirtual 395, 3) := by decide +kernel
theorem dX11_layOne_48 : decode cX11_layOne 48 = .ok (.invokestatic 392, 3) := by decide +kernel
theorem dX11_layOne_51 : decode cX11_layOne 51 = .ok (.iastore, 1) := by decide +kernel
theorem dX11_layOne_52 : decode cX11_layOne 52 = .ok (.iconst 0, 1) := by decide +kernel
theorem dX11_layOne_53 : decode cX11_layOne 53 = .ok (.ireturn, 1) := by decide +kernel
theorem dX12_init_0 : decode cX12_init 0 = .ok (.aload_n 0, 1) := by decide +kernel
theorem dX12_init_1 : decode cX12_init 1 = .ok (.invokespecial 1, 3) := by decide +kernel
theorem dX12_init_4 : decode cX12_init 4 = .ok (.aload_n 0, 1) := by decide +kernel
theorem dX12_init_5 : decode cX12_init 5 = .ok (.bipush 6, 2) := by decide +kernel
theorem dX12_init_7 : decode cX12_init 7 = .ok (.newarray .int, 2) := by decide +kernel
theorem dX12_init_9 : decode cX12_init 9 = .ok (.putfield 7, 3) := by decide +kernel
theorem dX12_init_12 : decode cX12_init 12 = .ok (.aload_n 0, 1) := by decide +kernel
theorem dX12_init_13 : decode cX12_init 13 = .ok (.bipush 24, 2) := by decide +kernel
theorem dX12_init_15 : decode cX12_init 15 = .ok (.newarray .long, 2) := by decide +kernel
theorem dX12_init_17 : decode cX12_init 17 = .ok (.putfield 13, 3) := by decide +kernel
theorem dX12_init_20 : decode cX12_init 20 = .ok (.aload_n 0, 1) := by decide +kernel
theorem dX12_init_21 : decode cX12_init 21 = .ok (.sipush 150, 3) := by decide +kernel
theorem dX12_init_24 : decode cX12_init 24 = .ok (.newarray .boolean, 2) := by decide +kernel
theorem dX12_init_26 : decode cX12_init 26 = .ok (.putfield 17, 3) := by decide +kernel
theorem dX12_init_29 : decode cX12_init 29 = .ok (.aload_n 0, 1) := by decide +kernel
theorem dX12_init_30 : decode cX12_init 30 = .ok (.sipush 150, 3) := by decide +kernel
theorem dX12_init_33 : decode cX12_init 33 = .ok (.newarray .int, 2) := by decide +kernel
theorem dX12_init_35 : decode cX12_init 35 = .ok (.putfield 21, 3) := by decide +kernel
theorem dX12_init_38 : decode cX12_init 38 = .ok (.aload_n 0, 1) := by decide +kernel
theorem dX12_init_39 : decode cX12_init 39 = .ok (.sipush 150, 3) := by decide +kernel
theorem dX12_init_42 : decode cX12_init 42 = .ok (.newarray .int, 2) := by decide +kernel
theorem dX12_init_44 : decode cX12_init 44 = .ok (.putfield 24, 3) := by decide +kernel
theorem dX12_init_47 : decode cX12_init 47 = .ok (.aload_n 0, 1) := by decide +kernel
theorem dX12_init_48 : decode cX12_init 48 = .ok (.sipush 150, 3) := by decide +kernel
theorem dX12_init_51 : decode cX12_init 51 = .ok (.newarray .int, 2) := by decide +kernel
theorem dX12_init_53 : decode cX12_init 53 = .ok (.putfield 27, 3) := by decide +kernel
theorem dX12_init_56 : decode cX12_init 56 = .ok (.aload_n 0, 1) := by decide +kernel
theorem dX12_init_57 : decode cX12_init 57 = .ok (.sipush 900, 3) := by decide +kernel
theorem dX12_init_60 : decode cX12_init 60 = .ok (.newarray .int, 2) := by decide +kernel
theorem dX12_init_62 : decode cX12_init 62 = .ok (.putfield 30, 3) := by decide +kernel
theorem dX12_init_65 : decode cX12_init 65 = .ok (.aload_n 0, 1) := by decide +kernel
theorem dX12_init_66 : decode cX12_init 66 = .ok (.sipush 150, 3) := by decide +kernel
theorem dX12_init_69 : decode cX12_init 69 = .ok (.newarray .int, 2) := by decide +kernel
theorem dX12_init_71 : decode cX12_init 71 = .ok (.putfield 33, 3) := by decide +kernel
theorem dX12_init_74 : decode cX12_init 74 = .ok (.aload_n 0, 1) := by decide +kernel
theorem dX12_init_75 : decode cX12_init 75 = .ok (.sipush 150, 3) := by decide +kernel
theorem dX12_init_78 : decode cX12_init 78 = .ok (.newarray .int, 2) := by decide +kernel
theorem dX12_init_80 : decode cX12_init 80 = .ok (.putfield 36, 3) := by decide +kernel
theorem dX12_init_83 : decode cX12_init 83 = .ok (.aload_n 0, 1) := by decide +kernel
theorem dX12_init_84 : decode cX12_init 84 = .ok (.sipush 150, 3) := by decide +kernel
theorem dX12_init_87 : decode cX12_init 87 = .ok (.newarray .boolean, 2) := by decide +kernel
theorem dX12_init_89 : decode cX12_init 89 = .ok (.putfield 39, 3) := by decide +kernel
theorem dX12_init_92 : decode cX12_init 92 = .ok (.aload_n 0, 1) := by decide +kernel
theorem dX12_init_93 : decode cX12_init 93 = .ok (.sipush 720, 3) := by decide +kernel
theorem dX12_init_96 : decode cX12_init 96 = .ok (.newarray .int, 2) := by decide +kernel
theorem dX12_init_98 : decode cX12_init 98 = .ok (.putfield 42, 3) := by decide +kernel
theorem dX12_init_101 : decode cX12_init 101 = .ok (.aload_n 0, 1) := by decide +kernel
theorem dX12_init_102 : decode cX12_init 102 = .ok (.bipush 18, 2) := by decide +kernel
theorem dX12_init_104 : decode cX12_init 104 = .ok (.newarray .int, 2) := by decide +kernel
theorem dX12_init_106 : decode cX12_init 106 = .ok (.putfield 45, 3) := by decide +kernel
theorem dX12_init_109 : decode cX12_init 109 = .ok (.aload_n 0, 1) := by decide +kernel
theorem dX12_init_110 : decode cX12_init 110 = .ok (.bipush 20, 2) := by decide +kernel
theorem dX12_init_112 : decode cX12_init 112 = .ok (.newarray .boolean, 2) := by decide +kernel
theorem dX12_init_114 : decode cX12_init 114 = .ok (.putfield 48, 3) := by decide +kernel
theorem dX12_init_117 : decode cX12_init 117 = .ok (.aload_n 0, 1) := by decide +kernel
theorem dX12_init_118 : decode cX12_init 118 = .ok (.bipush 20, 2) := by decide +kernel
theorem dX12_init_120 : decode cX12_init 120 = .ok (.newarray .int, 2) := by decide +kernel
theorem dX12_init_122 : decode cX12_init 122 = .ok (.putfield 51, 3) := by decide +kernel
theorem dX12_init_125 : decode cX12_init 125 = .ok (.aload_n 0, 1) := by decide +kernel
theorem dX12_init_126 : decode cX12_init 126 = .ok (.bipush 20, 2) := by decide +kernel
theorem dX12_init_128 : decode cX12_init 128 = .ok (.newarray .int, 2) := by decide +kernel
theorem dX12_init_130 : decode cX12_init 130 = .ok (.putfield 54, 3) := by decide +kernel
theorem dX12_init_133 : decode cX12_init 133 = .ok (.aload_n 0, 1) := by decide +kernel
theorem dX12_init_134 : decode cX12_init 134 = .ok (.bipush 20, 2) := by decide +kernel
theorem dX12_init_136 : decode cX12_init 136 = .ok (.newarray .int, 2) := by decide +kernel
theorem dX12_init_138 : decode cX12_init 138 = .ok (.putfield 57, 3) := by decide +kernel
theorem dX12_init_141 : decode cX12_init 141 = .ok (.aload_n 0, 1) := by decide +kernel
theorem dX12_init_142 : decode cX12_init 142 = .ok (.bipush 20, 2) := by decide +kernel
theorem dX12_init_144 : decode cX12_init 144 = .ok (.newarray .int, 2) := by decide +kernel
theorem dX12_init_146 : decode cX12_init 146 = .ok (.putfield 60, 3) := by decide +kernel
theorem dX12_init_149 : decode cX12_init 149 = .ok (.aload_n 0, 1) := by decide +kernel
theorem dX12_init_150 : decode cX12_init 150 = .ok (.bipush 20, 2) := by decide +kernel
theorem dX12_init_152 : decode cX12_init 152 = .ok (.newarray .int, 2) := by decide +kernel
theorem dX12_init_154 : decode cX12_init 154 = .ok (.putfield 63, 3) := by decide +kernel
theorem dX12_init_157 : decode cX12_init 157 = .ok (.aload_n 0, 1) := by decide +kernel
theorem dX12_init_158 : decode cX12_init 158 = .ok (.bipush 20, 2) := by decide +kernel
theorem dX12_init_160 : decode cX12_init 160 = .ok (.newarray .int, 2) := by decide +kernel
theorem dX12_init_162 : decode cX12_init 162 = .ok (.putfield 66, 3) := by decide +kernel
theorem dX12_init_165 : decode cX12_init 165 = .ok (.aload_n 0, 1) := by decide +kernel
theorem dX12_init_166 : decode cX12_init 166 = .ok (.bipush 30, 2) := by decide +kernel
theorem dX12_init_168 : decode cX12_init 168 = .ok (.newarray .boolean, 2) := by decide +kernel
theorem dX12_init_170 : decode cX12_init 170 = .ok (.putfield 69, 3) := by decide +kernel
theorem dX12_init_173 : decode cX12_init 173 = .ok (.aload_n 0, 1) := by decide +kernel
theorem dX12_init_174 : decode cX12_init 174 = .ok (.bipush 30, 2) := by decide +kernel
theorem dX12_init_176 : decode cX12_init 176 = .ok (.newarray .int, 2) := by decide +kernel
theorem dX12_init_178 : decode cX12_init 178 = .ok (.putfield 72, 3) := by decide +kernel
theorem dX12_init_181 : decode cX12_init 181 = .ok (.aload_n 0, 1) := by decide +kernel
theorem dX12_init_182 : decode cX12_init 182 = .ok (.bipush 30, 2) := by decide +kernel
theorem dX12_init_184 : decode cX12_init 184 = .ok (.newarray .int, 2) := by decide +kernel
theorem dX12_init_186 : decode cX12_init 186 = .ok (.putfield 75, 3) := by decide +kernel
theorem dX12_init_189 : decode cX12_init 189 = .ok (.aload_n 0, 1) := by decide +kernel
theorem dX12_init_190 : decode cX12_init 190 = .ok (.bipush 30, 2) := by decide +kernel
theorem dX12_init_192 : decode cX12_init 192 = .ok (.newarray .int, 2) := by decide +kernel
theorem dX12_init_194 : decode cX12_init 194 = .ok (.putfield 78, 3) := by decide +kernel
theorem dX12_init_197 : decode cX12_init 197 = .ok (.aload_n 0, 1) := by decide +kernel
theorem dX12_init_198 : decode cX12_init 198 = .ok (.sipush 150, 3) := by decide +kernel
theorem dX12_init_201 : decode cX12_init 201 = .ok (.newarray .int, 2) := by decide +kernel
theorem dX12_init_203 : decode cX12_init 203 = .ok (.putfield 81, 3) := by decide +kernel
theorem dX12_init_206 : decode cX12_init 206 = .ok (.aload_n 0, 1) := by decide +kernel
theorem dX12_init_207 : decode cX12_init 207 = .ok (.sipush 300, 3) := by decide +kernel
theorem dX12_init_210 : decode cX12_init 210 = .ok (.newarray .int, 2) := by decide +kernel
theorem dX12_init_212 : decode cX12_init 212 = .ok (.putfield 84, 3) := by decide +kernel
theorem dX12_init_215 : decode cX12_init 215 = .ok (.aload_n 0, 1) := by decide +kernel
theorem dX12_init_216 : decode cX12_init 216 = .ok (.iconst 4, 1) := by decide +kernel
theorem dX12_init_217 : decode cX12_init 217 = .ok (.newarray .boolean, 2) := by decide +kernel
theorem dX12_init_219 : decode cX12_init 219 = .ok (.putfield 87, 3) := by decide +kernel
theorem dX12_init_222 : decode cX12_init 222 = .ok (.aload_n 0, 1) := by decide +kernel
theorem dX12_init_223 : decode cX12_init 223 = .ok (.iconst 4, 1) := by decide +kernel
theorem dX12_init_224 : decode cX12_init 224 = .ok (.newarray .int, 2) := by decide +kernel
theorem dX12_init_226 : decode cX12_init 226 = .ok (.putfield 90, 3) := by decide +kernel
theorem dX12_init_229 : decode cX12_init 229 = .ok (.aload_n 0, 1) := by decide +kernel
theorem dX12_init_230 : decode cX12_init 230 = .ok (.iconst 4, 1) := by decide +kernel
theorem dX12_init_231 : decode cX12_init 231 = .ok (.newarray .int, 2) := by decide +kernel
theorem dX12_init_233 : decode cX12_init 233 = .ok (.putfield 93, 3) := by decide +kernel
theorem dX12_init_236 : decode cX12_init 236 = .ok (.aload_n 0, 1) := by decide +kernel
theorem dX12_init_237 : decode cX12_init 237 = .ok (.bipush 80, 2) := by decide +kernel
theorem dX12_init_239 : decode cX12_init 239 = .ok (.newarray .int, 2) := by decide +kernel
theorem dX12_init_241 : decode cX12_init 241 = .ok (.putfield 96, 3) := by decide +kernel
theorem dX12_init_244 : decode cX12_init 244 = .ok (.aload_n 0, 1) := by decide +kernel
theorem dX12_init_245 : decode cX12_init 245 = .ok (.bipush 20, 2) := by decide +kernel
theorem dX12_init_247 : decode cX12_init 247 = .ok (.newarray .int, 2) := by decide +kernel
theorem dX12_init_249 : decode cX12_init 249 = .ok (.putfield 99, 3) := by decide +kernel
theorem dX12_init_252 : decode cX12_init 252 = .ok (.aload_n 0, 1) := by decide +kernel
theorem dX12_init_253 : decode cX12_init 253 = .ok (.iconst 4, 1) := by decide +kernel
theorem dX12_init_254 : decode cX12_init 254 = .ok (.newarray .boolean, 2) := by decide +kernel
theorem dX12_init_256 : decode cX12_init 256 = .ok (.putfield 102, 3) := by decide +kernel
theorem dX12_init_259 : decode cX12_init 259 = .ok (.aload_n 0, 1) := by decide +kernel
theorem dX12_init_260 : decode cX12_init 260 = .ok (.iconst 4, 1) := by decide +kernel
theorem dX12_init_261 : decode cX12_init 261 = .ok (.newarray .int, 2) := by decide +kernel
theorem dX12_init_263 : decode cX12_init 263 = .ok (.putfield 105, 3) := by decide +kernel
theorem dX12_init_266 : decode cX12_init 266 = .ok (.aload_n 0, 1) := by decide +kernel
theorem dX12_init_267 : decode cX12_init 267 = .ok (.iconst 4, 1) := by decide +kernel
theorem dX12_init_268 : decode cX12_init 268 = .ok (.newarray .int, 2) := by decide +kernel
theorem dX12_init_270 : decode cX12_init 270 = .ok (.putfield 108, 3) := by decide +kernel
theorem dX12_init_273 : decode cX12_init 273 = .ok (.aload_n 0, 1) := by decide +kernel
theorem dX12_init_274 : decode cX12_init 274 = .ok (.sipush 240, 3) := by decide +kernel
theorem dX12_init_277 : decode cX12_init 277 = .ok (.newarray .int, 2) := by decide +kernel
theorem dX12_init_279 : decode cX12_init 279 = .ok (.putfield 111, 3) := by decide +kernel
theorem dX12_init_282 : decode cX12_init 282 = .ok (.aload_n 0, 1) := by decide +kernel
theorem dX12_init_283 : decode cX12_init 283 = .ok (.bipush 60, 2) := by decide +kernel
theorem dX12_init_285 : decode cX12_init 285 = .ok (.newarray .int, 2) := by decide +kernel
theorem dX12_init_287 : decode cX12_init 287 = .ok (.putfield 114, 3) := by decide +kernel
theorem dX12_init_290 : decode cX12_init 290 = .ok (.aload_n 0, 1) := by decide +kernel
theorem dX12_init_291 : decode cX12_init 291 = .ok (.iconst 5, 1) := by decide +kernel
theorem dX12_init_292 : decode cX12_init 292 = .ok (.newarray .int, 2) := by decide +kernel
theorem dX12_init_294 : decode cX12_init 294 = .ok (.putfield 117, 3) := by decide +kernel
theorem dX12_init_297 : decode cX12_init 297 = .ok (.aload_n 0, 1) := by decide +kernel
theorem dX12_init_298 : decode cX12_init 298 = .ok (.sipush 150, 3) := by decide +kernel
theorem dX12_init_301 : decode cX12_init 301 = .ok (.newarray .long, 2) := by decide +kernel
theorem dX12_init_303 : decode cX12_init 303 = .ok (.putfield 120, 3) := by decide +kernel
theorem dX12_init_306 : decode cX12_init 306 = .ok (.return_, 1) := by decide +kernel
theorem dX12_in_0 : decode cX12_in 0 = .ok (.lload_n 0, 1) := by decide +kernel
theorem dX12_in_1 : decode cX12_in 1 = .ok (.lload_n 2, 1) := by decide +kernel
theorem dX12_in_2 : decode cX12_in 2 = .ok (.lcmp, 1) := by decide +kernel
theorem dX12_in_3 : decode cX12_in 3 = .ok (.ifCond .lt 14, 3) := by decide +kernel
theorem dX12_in_6 : decode cX12_in 6 = .ok (.lload_n 0, 1) := by decide +kernel
theorem dX12_in_7 : decode cX12_in 7 = .ok (.lload 4, 2) := by decide +kernel
theorem dX12_in_9 : decode cX12_in 9 = .ok (.lcmp, 1) := by decide +kernel
theorem dX12_in_10 : decode cX12_in 10 = .ok (.ifCond .gt 7, 3) := by decide +kernel
theorem dX12_in_13 : decode cX12_in 13 = .ok (.iconst 1, 1) := by decide +kernel
theorem dX12_in_14 : decode cX12_in 14 = .ok (.goto 4, 3) := by decide +kernel
theorem dX12_in_17 : decode cX12_in 17 = .ok (.iconst 0, 1) := by decide +kernel
theorem dX12_in_18 : decode cX12_in 18 = .ok (.ireturn, 1) := by decide +kernel
theorem dX12_begin_0 : decode cX12_begin 0 = .ok (.aload_n 0, 1) := by decide +kernel
theorem dX12_begin_1 : decode cX12_begin 1 = .ok (.iconst 0, 1) := by decide +kernel
theorem dX12_begin_2 : decode cX12_begin 2 = .ok (.putfield 123, 3) := by decide +kernel
theorem dX12_begin_5 : decode cX12_begin 5 = .ok (.aload_n 0, 1) := by decide +kernel
theorem dX12_begin_6 : decode cX12_begin 6 = .ok (.iconst 0, 1) := by decide +kernel
theorem dX12_begin_7 : decode cX12_begin 7 = .ok (.putfield 127, 3) := by decide +kernel
theorem dX12_begin_10 : decode cX12_begin 10 = .ok (.return_, 1) := by decide +kernel
theorem dX12_no_0 : decode cX12_no 0 = .ok (.aload_n 0, 1) := by decide +kernel
theorem dX12_no_1 : decode cX12_no 1 = .ok (.iload_n 1, 1) := by decide +kernel
theorem dX12_no_2 : decode cX12_no 2 = .ok (.putfield 127, 3) := by decide +kernel
theorem dX12_no_5 : decode cX12_no 5 = .ok (.iload_n 1, 1) := by decide +kernel
theorem dX12_no_6 : decode cX12_no 6 = .ok (.ireturn, 1) := by decide +kernel
theorem dX12_fails_0 : decode cX12_fails 0 = .ok (.aload_n 0, 1) := by decide +kernel
theorem dX12_fails_1 : decode cX12_fails 1 = .ok (.getfield 117, 3) := by decide +kernel
theorem dX12_fails_4 : decode cX12_fails 4 = .ok (.bipush (-11), 2) := by decide +kernel
theorem dX12_fails_6 : decode cX12_fails 6 = .ok (.iload_n 1, 1) := by decide +kernel
theorem dX12_fails_7 : decode cX12_fails 7 = .ok (.isub, 1) := by decide +kernel
theorem dX12_fails_8 : decode cX12_fails 8 = .ok (.dup2, 1) := by decide +kernel
theorem dX12_fails_9 : decode cX12_fails 9 = .ok (.iaload, 1) := by decide +kernel
theorem dX12_fails_10 : decode cX12_fails 10 = .ok (.iconst 1, 1) := by decide +kernel
theorem dX12_fails_11 : decode cX12_fails 11 = .ok (.iadd, 1) := by decide +kernel
theorem dX12_fails_12 : decode cX12_fails 12 = .ok (.iastore, 1) := by decide +kernel
theorem dX12_fails_13 : decode cX12_fails 13 = .ok (.aload_n 0, 1) := by decide +kernel
theorem dX12_fails_14 : decode cX12_fails 14 = .ok (.iload_n 1, 1) := by decide +kernel
theorem dX12_fails_15 : decode cX12_fails 15 = .ok (.invokevirtual 130, 3) := by decide +kernel
theorem dX12_fails_18 : decode cX12_fails 18 = .ok (.ireturn, 1) := by decide +kernel
theorem dX12_isVoice_0 : decode cX12_isVoice 0 = .ok (.iload_n 1, 1) := by decide +kernel
theorem dX12_isVoice_1 : decode cX12_isVoice 1 = .ok (.i2l, 1) := by decide +kernel
theorem dX12_isVoice_2 : decode cX12_isVoice 2 = .ok (.lconst 0, 1) := by decide +kernel
theorem dX12_isVoice_3 : decode cX12_isVoice 3 = .ok (.iconst 3, 1) := by decide +kernel
theorem dX12_isVoice_4 : decode cX12_isVoice 4 = .ok (.aload_n 0, 1) := by decide +kernel
theorem dX12_isVoice_5 : decode cX12_isVoice 5 = .ok (.getfield 134, 3) := by decide +kernel
theorem dX12_isVoice_8 : decode cX12_isVoice 8 = .ok (.imul, 1) := by decide +kernel
theorem dX12_isVoice_9 : decode cX12_isVoice 9 = .ok (.iconst 1, 1) := by decide +kernel
theorem dX12_isVoice_10 : decode cX12_isVoice 10 = .ok (.isub, 1) := by decide +kernel
theorem dX12_isVoice_11 : decode cX12_isVoice 11 = .ok (.i2l, 1) := by decide +kernel
theorem dX12_isVoice_12 : decode cX12_isVoice 12 = .ok (.invokestatic 137, 3) := by decide +kernel
theorem dX12_isVoice_15 : decode cX12_isVoice 15 = .ok (.ireturn, 1) := by decide +kernel
theorem dX12_isEvent_0 : decode cX12_isEvent 0 = .ok (.iload_n 1, 1) := by decide +kernel
theorem dX12_isEvent_1 : decode cX12_isEvent 1 = .ok (.i2l, 1) := by decide +kernel
theorem dX12_isEvent_2 : decode cX12_isEvent 2 = .ok (.lconst 0, 1) := by decide +kernel
theorem dX12_isEvent_3 : decode cX12_isEvent 3 = .ok (.aload_n 0, 1) := by decide +kernel
theorem dX12_isEvent_4 : decode cX12_isEvent 4 = .ok (.getfield 141, 3) := by decide +kernel
theorem dX12_isEvent_7 : decode cX12_isEvent 7 = .ok (.iconst 1, 1) := by decide +kernel
theorem dX12_isEvent_8 : decode cX12_isEvent 8 = .ok (.isub, 1) := by decide +kernel
theorem dX12_isEvent_9 : decode cX12_isEvent 9 = .ok (.i2l, 1) := by decide +kernel
theorem dX12_isEvent_10 : decode cX12_isEvent 10 = .ok (.invokestatic 137, 3) := by decide +kernel
theorem dX12_isEvent_13 : decode cX12_isEvent 13 = .ok (.ifCond .eq 16, 3) := by decide +kernel
theorem dX12_isEvent_16 : decode cX12_isEvent 16 = .ok (.aload_n 0, 1) := by decide +kernel
theorem dX12_isEvent_17 : decode cX12_isEvent 17 = .ok (.getfield 17, 3) := by decide +kernel
theorem dX12_isEvent_20 : decode cX12_isEvent 20 = .ok (.iload_n 1, 1) := by decide +kernel
theorem dX12_isEvent_21 : decode cX12_isEvent 21 = .ok (.baload, 1) := by decide +kernel
theorem dX12_isEvent_22 : decode cX12_isEvent 22 = .ok (.ifCond .eq 7, 3) := by decide +kernel
theorem dX12_isEvent_25 : decode cX12_isEvent 25 = .ok (.iconst 1, 1) := by decide +kernel
theorem dX12_isEvent_26 : decode cX12_isEvent 26 = .ok (.goto 4, 3) := by decide +kernel
theorem dX12_isEvent_29 : decode cX12_isEvent 29 = .ok (.iconst 0, 1) := by decide +kernel
theorem dX12_isEvent_30 : decode cX12_isEvent 30 = .ok (.ireturn, 1) := by decide +kernel
theorem dX12_isNote_0 : decode cX12_isNote 0 = .ok (.aload_n 0, 1) := by decide +kernel
theorem dX12_isNote_1 : decode cX12_isNote 1 = .ok (.getfield 24, 3) := by decide +kernel
theorem dX12_isNote_4 : decode cX12_isNote 4 = .ok (.iload_n 1, 1) := by decide +kernel
theorem dX12_isNote_5 : decode cX12_isNote 5 = .ok (.iaload, 1) := by decide +kernel
theorem dX12_isNote_6 : decode cX12_isNote 6 = .ok (.iconst 3, 1) := by decide +kernel
theorem dX12_isNote_7 : decode cX12_isNote 7 = .ok (.if_icmp .ge 7, 3) := by decide +kernel
theorem dX12_isNote_10 : decode cX12_isNote 10 = .ok (.iconst 1, 1) := by decide +kernel
theorem dX12_isNote_11 : decode cX12_isNote 11 = .ok (.goto 4, 3) := by decide +kernel
theorem dX12_isNote_14 : decode cX12_isNote 14 = .ok (.iconst 0, 1) := by decide +kernel
theorem dX12_isNote_15 : decode cX12_isNote 15 = .ok (.ireturn, 1) := by decide +kernel
theorem dX12_placeOf_0 : decode cX12_placeOf 0 = .ok (.aload_n 0, 1) := by decide +kernel
theorem dX12_placeOf_1 : decode cX12_placeOf 1 = .ok (.getfield 21, 3) := by decide +kernel
theorem dX12_placeOf_4 : decode cX12_placeOf 4 = .ok (.iload_n 1, 1) := by decide +kernel
theorem dX12_placeOf_5 : decode cX12_placeOf 5 = .ok (.iaload, 1) := by decide +kernel
theorem dX12_placeOf_6 : decode cX12_placeOf 6 = .ok (.istore_n 2, 1) := by decide +kernel
theorem dX12_placeOf_7 : decode cX12_placeOf 7 = .ok (.iconst 0, 1) := by decide +kernel
theorem dX12_placeOf_8 : decode cX12_placeOf 8 = .ok (.istore_n 3, 1) := by decide +kernel
theorem dX12_placeOf_9 : decode cX12_placeOf 9 = .ok (.aload_n 0, 1) := by decide +kernel
theorem dX12_placeOf_10 : decode cX12_placeOf 10 = .ok (.getfield 42, 3) := by decide +kernel
theorem dX12_placeOf_13 : decode cX12_placeOf 13 = .ok (.bipush 40, 2) := by decide +kernel
theorem dX12_placeOf_15 : decode cX12_placeOf 15 = .ok (.iload_n 2, 1) := by decide +kernel
theorem dX12_placeOf_16 : decode cX12_placeOf 16 = .ok (.imul, 1) := by decide +kernel
theorem dX12_placeOf_17 : decode cX12_placeOf 17 = .ok (.iload_n 3, 1) := by decide +kernel
theorem dX12_placeOf_18 : decode cX12_placeOf 18 = .ok (.iadd, 1) := by decide +kernel
theorem dX12_placeOf_19 : decode cX12_placeOf 19 = .ok (.iaload, 1) := by decide +kernel
theorem dX12_placeOf_20 : decode cX12_placeOf 20 = .ok (.iload_n 1, 1) := by decide +kernel
theorem dX12_placeOf_21 : decode cX12_placeOf 21 = .ok (.if_icmp .eq 9, 3) := by decide +kernel
theorem dX12_placeOf_24 : decode cX12_placeOf 24 = .ok (.iinc 3 1, 3) := by decide +kernel
theorem dX12_placeOf_27 : decode cX12_placeOf 27 = .ok (.goto (-18), 3) := by decide +kernel
theorem dX12_placeOf_30 : decode cX12_placeOf 30 = .ok (.iload_n 3, 1) := by decide +kernel
theorem dX12_placeOf_31 : decode cX12_placeOf 31 = .ok (.ireturn, 1) := by decide +kernel
theorem dX12_part_0 : decode cX12_part 0 = .ok (.aload_n 0, 1) := by decide +kernel
theorem dX12_part_1 : decode cX12_part 1 = .ok (.invokevirtual 144, 3) := by decide +kernel
theorem dX12_part_4 : decode cX12_part 4 = .ok (.iload_n 1, 1) := by decide +kernel
theorem dX12_part_5 : decode cX12_part 5 = .ok (.i2l, 1) := by decide +kernel
theorem dX12_part_6 : decode cX12_part 6 = .ok (.lconst 0, 1) := by decide +kernel
theorem dX12_part_7 : decode cX12_part 7 = .ok (.ldc2_w 147, 3) := by decide +kernel
theorem dX12_part_10 : decode cX12_part 10 = .ok (.invokestatic 137, 3) := by decide +kernel
theorem dX12_part_13 : decode cX12_part 13 = .ok (.ifCond .ne 10, 3) := by decide +kernel
theorem dX12_part_16 : decode cX12_part 16 = .ok (.aload_n 0, 1) := by decide +kernel
theorem dX12_part_17 : decode cX12_part 17 = .ok (.bipush (-2), 2) := by decide +kernel
theorem dX12_part_19 : decode cX12_part 19 = .ok (.invokevirtual 130, 3) := by decide +kernel
theorem dX12_part_22 : decode cX12_part 22 = .ok (.ireturn, 1) := by decide +kernel
theorem dX12_part_23 : decode cX12_part 23 = .ok (.aload_n 0, 1) := by decide +kernel
theorem dX12_part_24 : decode cX12_part 24 = .ok (.getfield 134, 3) := by decide +kernel
theorem dX12_part_27 : decode cX12_part 27 = .ok (.bipush 6, 2) := by decide +kernel
theorem dX12_part_29 : decode cX12_part 29 = .ok (.if_icmp .ne 10, 3) := by decide +kernel
theorem dX12_part_32 : decode cX12_part 32 = .ok (.aload_n 0, 1) := by decide +kernel
theorem dX12_part_33 : decode cX12_part 33 = .ok (.bipush (-4), 2) := by decide +kernel
theorem dX12_part_35 : decode cX12_part 35 = .ok (.invokevirtual 130, 3) := by decide +kernel
theorem dX12_part_38 : decode cX12_part 38 = .ok (.ireturn, 1) := by decide +kernel
theorem dX12_part_39 : decode cX12_part 39 = .ok (.aload_n 0, 1) := by decide +kernel
theorem dX12_part_40 : decode cX12_part 40 = .ok (.getfield 7, 3) := by decide +kernel
theorem dX12_part_43 : decode cX12_part 43 = .ok (.aload_n 0, 1) := by decide +kernel
theorem dX12_part_44 : decode cX12_part 44 = .ok (.getfield 134, 3) := by decide +kernel
theorem dX12_part_47 : decode cX12_part 47 = .ok (.iload_n 1, 1) := by decide +kernel
theorem dX12_part_48 : decode cX12_part 48 = .ok (.iastore, 1) := by decide +kernel
theorem dX12_part_49 : decode cX12_part 49 = .ok (.aload_n 0, 1) := by decide +kernel
theorem dX12_part_50 : decode cX12_part 50 = .ok (.dup, 1) := by decide +kernel
theorem dX12_part_51 : decode cX12_part 51 = .ok (.getfield 134, 3) := by decide +kernel
theorem dX12_part_54 : decode cX12_part 54 = .ok (.iconst 1, 1) := by decide +kernel
theorem dX12_part_55 : decode cX12_part 55 = .ok (.iadd, 1) := by decide +kernel
theorem dX12_part_56 : decode cX12_part 56 = .ok (.putfield 134, 3) := by decide +kernel
theorem dX12_part_59 : decode cX12_part 59 = .ok (.aload_n 0, 1) := by decide +kernel
theorem dX12_part_60 : decode cX12_part 60 = .ok (.getfield 134, 3) := by decide +kernel
theorem dX12_part_63 : decode cX12_part 63 = .ok (.iconst 1, 1) := by decide +kernel
theorem dX12_part_64 : decode cX12_part 64 = .ok (.isub, 1) := by decide +kernel
theorem dX12_part_65 : decode cX12_part 65 = .ok (.ireturn, 1) := by decide +kernel
theorem dX12_bar_0 : decode cX12_bar 0 = .ok (.aload_n 0, 1) := by decide +kernel
theorem dX12_bar_1 : decode cX12_bar 1 = .ok (.invokevirtual 144, 3) := by decide +kernel
theorem dX12_bar_4 : decode cX12_bar 4 = .ok (.iload_n 2, 1) := by decide +kernel
theorem dX12_bar_5 : decode cX12_bar 5 = .ok (.iconst 1, 1) := by decide +kernel
theorem dX12_bar_6 : decode cX12_bar 6 = .ok (.if_icmp .eq 31, 3) := by decide +kernel
theorem dX12_bar_9 : decode cX12_bar 9 = .ok (.iload_n 2, 1) := by decide +kernel
theorem dX12_bar_10 : decode cX12_bar 10 = .ok (.iconst 2, 1) := by decide +kernel
theorem dX12_bar_11 : decode cX12_bar 11 = .ok (.if_icmp .eq 26, 3) := by decide +kernel
theorem dX12_bar_14 : decode cX12_bar 14 = .ok (.iload_n 2, 1) := by decide +kernel
theorem dX12_bar_15 : decode cX12_bar 15 = .ok (.iconst 4, 1) := by decide +kernel
theorem dX12_bar_16 : decode cX12_bar 16 = .ok (.if_icmp .eq 21, 3) := by decide +kernel
theorem dX12_bar_19 : decode cX12_bar 19 = .ok (.iload_n 2, 1) := by decide +kernel
theorem dX12_bar_20 : decode cX12_bar 20 = .ok (.bipush 8, 2) := by decide +kernel
theorem dX12_bar_22 : decode cX12_bar 22 = .ok (.if_icmp .eq 15, 3) := by decide +kernel
theorem dX12_bar_25 : decode cX12_bar 25 = .ok (.iload_n 2, 1) := by decide +kernel
theorem dX12_bar_26 : decode cX12_bar 26 = .ok (.bipush 16, 2) := by decide +kernel
theorem dX12_bar_28 : decode cX12_bar 28 = .ok (.if_icmp .eq 9, 3) := by decide +kernel
theorem dX12_bar_31 : decode cX12_bar 31 = .ok (.iload_n 2, 1) := by decide +kernel
theorem dX12_bar_32 : decode cX12_bar 32 = .ok (.bipush 32, 2) := by decide +kernel
theorem dX12_bar_34 : decode cX12_bar 34 = .ok (.if_icmp .ne 7, 3) := by decide +kernel
theorem dX12_bar_37 : decode cX12_bar 37 = .ok (.iconst 1, 1) := by decide +kernel
theorem dX12_bar_38 : decode cX12_bar 38 = .ok (.goto 4, 3) := by decide +kernel
theorem dX12_bar_41 : decode cX12_bar 41 = .ok (.iconst 0, 1) := by decide +kernel
theorem dX12_bar_42 : decode cX12_bar 42 = .ok (.istore_n 3, 1) := by decide +kernel
theorem dX12_bar_43 : decode cX12_bar 43 = .ok (.iload_n 3, 1) := by decide +kernel
theorem dX12_bar_44 : decode cX12_bar 44 = .ok (.ifCond .eq 15, 3) := by decide +kernel
theorem dX12_bar_47 : decode cX12_bar 47 = .ok (.iload_n 1, 1) := by decide +kernel
theorem dX12_bar_48 : decode cX12_bar 48 = .ok (.i2l, 1) := by decide +kernel
theorem dX12_bar_49 : decode cX12_bar 49 = .ok (.lconst 1, 1) := by decide +kernel
theorem dX12_bar_50 : decode cX12_bar 50 = .ok (.ldc2_w 149, 3) := by decide +kernel
theorem dX12_bar_53 : decode cX12_bar 53 = .ok (.invokestatic 137, 3) := by decide +kernel
theorem dX12_bar_56 : decode cX12_bar 56 = .ok (.ifCond .ne 10, 3) := by decide +kernel
theorem dX12_bar_59 : decode cX12_bar 59 = .ok (.aload_n 0, 1) := by decide +kernel
theorem dX12_bar_60 : decode cX12_bar 60 = .ok (.bipush (-2), 2) := by decide +kernel
theorem dX12_bar_62 : decode cX12_bar 62 = .ok (.invokevirtual 130, 3) := by decide +kernel
theorem dX12_bar_65 : decode cX12_bar 65 = .ok (.ireturn, 1) := by decide +kernel
theorem dX12_bar_66 : decode cX12_bar 66 = .ok (.aload_n 0, 1) := by decide +kernel
theorem dX12_bar_67 : decode cX12_bar 67 = .ok (.getfield 151, 3) := by decide +kernel
theorem dX12_bar_70 : decode cX12_bar 70 = .ok (.bipush 24, 2) := by decide +kernel
theorem dX12_bar_72 : decode cX12_bar 72 = .ok (.if_icmp .ne 10, 3) := by decide +kernel
theorem dX12_bar_75 : decode cX12_bar 75 = .ok (.aload_n 0, 1) := by decide +kernel
theorem dX12_bar_76 : decode cX12_bar 76 = .ok (.bipush (-4), 2) := by decide +kernel
theorem dX12_bar_78 : decode cX12_bar 78 = .ok (.invokevirtual 130, 3) := by decide +kernel
theorem dX12_bar_81 : decode cX12_bar 81 = .ok (.ireturn, 1) := by decide +kernel
theorem dX12_bar_82 : decode cX12_bar 82 = .ok (.aload_n 0, 1) := by decide +kernel
theorem dX12_bar_83 : decode cX12_bar 83 = .ok (.getfield 13, 3) := by decide +kernel
theorem dX12_bar_86 : decode cX12_bar 86 = .ok (.aload_n 0, 1) := by decide +kernel
theorem dX12_bar_87 : decode cX12_bar 87 = .ok (.getfield 151, 3) := by decide +kernel
theorem dX12_bar_90 : decode cX12_bar 90 = .ok (.ldc2_w 154, 3) := by decide +kernel
theorem dX12_bar_93 : decode cX12_bar 93 = .ok (.iload_n 2, 1) := by decide +kernel
theorem dX12_bar_94 : decode cX12_bar 94 = .ok (.i2l, 1) := by decide +kernel
theorem dX12_bar_95 : decode cX12_bar 95 = .ok (.ldiv, 1) := by decide +kernel
theorem dX12_bar_96 : decode cX12_bar 96 = .ok (.iload_n 1, 1) := by decide +kernel
theorem dX12_bar_97 : decode cX12_bar 97 = .ok (.i2l, 1) := by decide +kernel
theorem dX12_bar_98 : decode cX12_bar 98 = .ok (.lmul, 1) := by decide +kernel
theorem dX12_bar_99 : decode cX12_bar 99 = .ok (.lastore, 1) := by decide +kernel
theorem dX12_bar_100 : decode cX12_bar 100 = .ok (.aload_n 0, 1) := by decide +kernel
theorem dX12_bar_101 : decode cX12_bar 101 = .ok (.dup, 1) := by decide +kernel
theorem dX12_bar_102 : decode cX12_bar 102 = .ok (.getfield 151, 3) := by decide +kernel
theorem dX12_bar_105 : decode cX12_bar 105 = .ok (.iconst 1, 1) := by decide +kernel
theorem dX12_bar_106 : decode cX12_bar 106 = .ok (.iadd, 1) := by decide +kernel
theorem dX12_bar_107 : decode cX12_bar 107 = .ok (.putfield 151, 3) := by decide +kernel
theorem dX12_bar_110 : decode cX12_bar 110 = .ok (.aload_n 0, 1) := by decide +kernel
theorem dX12_bar_111 : decode cX12_bar 111 = .ok (.getfield 151, 3) := by decide +kernel
theorem dX12_bar_114 : decode cX12_bar 114 = .ok (.iconst 1, 1) := by decide +kernel
theorem dX12_bar_115 : decode cX12_bar 115 = .ok (.isub, 1) := by decide +kernel
theorem dX12_bar_116 : decode cX12_bar 116 = .ok (.ireturn, 1) := by decide +kernel
theorem dX12_sounds_0 : decode cX12_sounds 0 = .ok (.iload_n 1, 1) := by decide +kernel
theorem dX12_sounds_1 : decode cX12_sounds 1 = .ok (.tableswitch 104 1 5 #[35, 104, 52, 69, 89], 35) := by decide +kernel
theorem dX12_sounds_36 : decode cX12_sounds 36 = .ok (.aload_n 0, 1) := by decide +kernel
theorem dX12_sounds_37 : decode cX12_sounds 37 = .ok (.dup, 1) := by decide +kernel
theorem dX12_sounds_38 : decode cX12_sounds 38 = .ok (.getfield 156, 3) := by decide +kernel
theorem dX12_sounds_41 : decode cX12_sounds 41 = .ok (.ldc2_w 160, 3) := by decide +kernel
theorem dX12_sounds_44 : decode cX12_sounds 44 = .ok (.ladd, 1) := by decide +kernel
theorem dX12_sounds_45 : decode cX12_sounds 45 = .ok (.putfield 156, 3) := by decide +kernel
theorem dX12_sounds_48 : decode cX12_sounds 48 = .ok (.iload_n 2, 1) := by decide +kernel
theorem dX12_sounds_49 : decode cX12_sounds 49 = .ok (.bipush 12, 2) := by decide +kernel
theorem dX12_sounds_51 : decode cX12_sounds 51 = .ok (.isub, 1) := by decide +kernel
theorem dX12_sounds_52 : decode cX12_sounds 52 = .ok (.ireturn, 1) := by decide +kernel
theorem dX12_sounds_53 : decode cX12_sounds 53 = .ok (.aload_n 0, 1) := by decide +kernel
theorem dX12_sounds_54 : decode cX12_sounds 54 = .ok (.dup, 1) := by decide +kernel
theorem dX12_sounds_55 : decode cX12_sounds 55 = .ok (.getfield 156, 3) := by decide +kernel
theorem dX12_sounds_58 : decode cX12_sounds 58 = .ok (.ldc2_w 162, 3) := by decide +kernel
theorem dX12_sounds_61 : decode cX12_sounds 61 = .ok (.ladd, 1) := by decide +kernel
theorem dX12_sounds_62 : decode cX12_sounds 62 = .ok (.putfield 156, 3) := by decide +kernel
theorem dX12_sounds_65 : decode cX12_sounds 65 = .ok (.iload_n 2, 1) := by decide +kernel
theorem dX12_sounds_66 : decode cX12_sounds 66 = .ok (.bipush 7, 2) := by decide +kernel
theorem dX12_sounds_68 : decode cX12_sounds 68 = .ok (.isub, 1) := by decide +kernel
theorem dX12_sounds_69 : decode cX12_sounds 69 = .ok (.ireturn, 1) := by decide +kernel
theorem dX12_sounds_70 : decode cX12_sounds 70 = .ok (.aload_n 0, 1) := by decide +kernel
theorem dX12_sounds_71 : decode cX12_sounds 71 = .ok (.dup, 1) := by decide +kernel
theorem dX12_sounds_72 : decode cX12_sounds 72 = .ok (.getfield 156, 3) := by decide +kernel
theorem dX12_sounds_75 : decode cX12_sounds 75 = .ok (.ldc2_w 164, 3) := by decide +kernel
theorem dX12_sounds_78 : decode cX12_sounds 78 = .ok (.ladd, 1) := by decide +kernel
theorem dX12_sounds_79 : decode cX12_sounds 79 = .ok (.putfield 156, 3) := by decide +kernel
theorem dX12_sounds_82 : decode cX12_sounds 82 = .ok (.iload_n 2, 1) := by decide +kernel
theorem dX12_sounds_83 : decode cX12_sounds 83 = .ok (.bipush 7, 2) := by decide +kernel
theorem dX12_sounds_85 : decode cX12_sounds 85 = .ok (.isub, 1) := by decide +kernel
theorem dX12_sounds_86 : decode cX12_sounds 86 = .ok (.bipush 12, 2) := by decide +kernel
theorem dX12_sounds_88 : decode cX12_sounds 88 = .ok (.isub, 1) := by decide +kernel
theorem dX12_sounds_89 : decode cX12_sounds 89 = .ok (.ireturn, 1) := by decide +kernel
theorem dX12_sounds_90 : decode cX12_sounds 90 = .ok (.aload_n 0, 1) := by decide +kernel
theorem dX12_sounds_91 : decode cX12_sounds 91 = .ok (.dup, 1) := by decide +kernel
theorem dX12_sounds_92 : decode cX12_sounds 92 = .ok (.getfield 156, 3) := by decide +kernel
theorem dX12_sounds_95 : decode cX12_sounds 95 = .ok (.ldc2_w 166, 3) := by decide +kernel
theorem dX12_sounds_98 : decode cX12_sounds 98 = .ok (.ladd, 1) := by decide +kernel
theorem dX12_sounds_99 : decode cX12_sounds 99 = .ok (.putfield 156, 3) := by decide +kernel
theorem dX12_sounds_102 : decode cX12_sounds 102 = .ok (.bipush 35, 2) := by decide +kernel
theorem dX12_sounds_104 : decode cX12_sounds 104 = .ok (.ireturn, 1) := by decide +kernel
theorem dX12_sounds_105 : decode cX12_sounds 105 = .ok (.aload_n 0, 1) := by decide +kernel
theorem dX12_sounds_106 : decode cX12_sounds 106 = .ok (.dup, 1) := by decide +kernel
theorem dX12_sounds_107 : decode cX12_sounds 107 = .ok (.getfield 156, 3) := by decide +kernel
theorem dX12_sounds_110 : decode cX12_sounds 110 = .ok (.lconst 1, 1) := by decide +kernel
theorem dX12_sounds_111 : decode cX12_sounds 111 = .ok (.ladd, 1) := by decide +kernel
theorem dX12_sounds_112 : decode cX12_sounds 112 = .ok (.putfield 156, 3) := by decide +kernel
theorem dX12_sounds_115 : decode cX12_sounds 115 = .ok (.iload_n 2, 1) := by decide +kernel
theorem dX12_sounds_116 : decode cX12_sounds 116 = .ok (.ireturn, 1) := by decide +kernel
theorem dX12_leastOf_0 : decode cX12_leastOf 0 = .ok (.aload_n 0, 1) := by decide +kernel
theorem dX12_leastOf_1 : decode cX12_leastOf 1 = .ok (.dup, 1) := by decide +kernel
theorem dX12_leastOf_2 : decode cX12_leastOf 2 = .ok (.getfield 156, 3) := by decide +kernel
theorem dX12_leastOf_5 : decode cX12_leastOf 5 = .ok (.iload_n 1, 1) := by decide +kernel
theorem dX12_leastOf_6 : decode cX12_leastOf 6 = .ok (.iconst 4, 1) := by decide +kernel
theorem dX12_leastOf_7 : decode cX12_leastOf 7 = .ok (.if_icmp .ne 9, 3) := by decide +kernel
theorem dX12_leastOf_10 : decode cX12_leastOf 10 = .ok (.ldc2_w 168, 3) := by decide +kernel
theorem dX12_leastOf_13 : decode cX12_leastOf 13 = .ok (.goto 4, 3) := by decide +kernel
theorem dX12_leastOf_16 : decode cX12_leastOf 16 = .ok (.lconst 0, 1) := by decide +kernel
theorem dX12_leastOf_17 : decode cX12_leastOf 17 = .ok (.ladd, 1) := by decide +kernel
theorem dX12_leastOf_18 : decode cX12_leastOf 18 = .ok (.putfield 156, 3) := by decide +kernel
theorem dX12_leastOf_21 : decode cX12_leastOf 21 = .ok (.iload_n 1, 1) := by decide +kernel
theorem dX12_leastOf_22 : decode cX12_leastOf 22 = .ok (.iconst 4, 1) := by decide +kernel
theorem dX12_leastOf_23 : decode cX12_leastOf 23 = .ok (.if_icmp .ne 8, 3) := by decide +kernel
theorem dX12_leastOf_26 : decode cX12_leastOf 26 = .ok (.bipush 23, 2) := by decide +kernel
theorem dX12_leastOf_28 : decode cX12_leastOf 28 = .ok (.goto 20, 3) := by decide +kernel
theorem dX12_leastOf_31 : decode cX12_leastOf 31 = .ok (.iload_n 1, 1) := by decide +kernel
theorem dX12_leastOf_32 : decode cX12_leastOf 32 = .ok (.iconst 2, 1) := by decide +kernel
theorem dX12_leastOf_33 : decode cX12_leastOf 33 = .ok (.if_icmp .eq 8, 3) := by decide +kernel
theorem dX12_leastOf_36 : decode cX12_leastOf 36 = .ok (.iload_n 1, 1) := by decide +kernel
theorem dX12_leastOf_37 : decode cX12_leastOf 37 = .ok (.iconst 3, 1) := by decide +kernel
theorem dX12_leastOf_38 : decode cX12_leastOf 38 = .ok (.if_icmp .ne 8, 3) := by decide +kernel
theorem dX12_leastOf_41 : decode cX12_leastOf 41 = .ok (.bipush 28, 2) := by decide +kernel
theorem dX12_leastOf_43 : decode cX12_leastOf 43 = .ok (.goto 5, 3) := by decide +kernel
theorem dX12_leastOf_46 : decode cX12_leastOf 46 = .ok (.bipush 21, 2) := by decide +kernel
theorem dX12_leastOf_48 : decode cX12_leastOf 48 = .ok (.ireturn, 1) := by decide +kernel
theorem dX12_mostOf_0 : decode cX12_mostOf 0 = .ok (.iload_n 0, 1) := by decide +kernel
theorem dX12_mostOf_1 : decode cX12_mostOf 1 = .ok (.i2l, 1) := by decide +kernel
theorem dX12_mostOf_2 : decode cX12_mostOf 2 = .ok (.ldc2_w 170, 3) := by decide +kernel
theorem dX12_mostOf_5 : decode cX12_mostOf 5 = .ok (.ldc2_w 172, 3) := by decide +kernel
theorem dX12_mostOf_8 : decode cX12_mostOf 8 = .ok (.invokestatic 137, 3) := by decide +kernel
theorem dX12_mostOf_11 : decode cX12_mostOf 11 = .ok (.ifCond .eq 8, 3) := by decide +kernel
theorem dX12_mostOf_14 : decode cX12_mostOf 14 = .ok (.bipush 82, 2) := by decide +kernel
theorem dX12_mostOf_16 : decode cX12_mostOf 16 = .ok (.goto 5, 3) := by decide +kernel
theorem dX12_mostOf_19 : decode cX12_mostOf 19 = .ok (.bipush 108, 2) := by decide +kernel
theorem dX12_mostOf_21 : decode cX12_mostOf 21 = .ok (.ireturn, 1) := by decide +kernel
theorem dX12_asks_0 : decode cX12_asks 0 = .ok (.aload_n 0, 1) := by decide +kernel
theorem dX12_asks_1 : decode cX12_asks 1 = .ok (.invokevirtual 144, 3) := by decide +kernel
theorem dX12_asks_4 : decode cX12_asks 4 = .ok (.iload_n 1, 1) := by decide +kernel
theorem dX12_asks_5 : decode cX12_asks 5 = .ok (.i2l, 1) := by decide +kernel
theorem dX12_asks_6 : decode cX12_asks 6 = .ok (.lconst 0, 1) := by decide +kernel
theorem dX12_asks_7 : decode cX12_asks 7 = .ok (.aload_n 0, 1) := by decide +kernel
theorem dX12_asks_8 : decode cX12_asks 8 = .ok (.getfield 134, 3) := by decide +kernel
theorem dX12_asks_11 : decode cX12_asks 11 = .ok (.iconst 1, 1) := by decide +kernel
theorem dX12_asks_12 : decode cX12_asks 12 = .ok (.isub, 1) := by decide +kernel
theorem dX12_asks_13 : decode cX12_asks 13 = .ok (.i2l, 1) := by decide +kernel
theorem dX12_asks_14 : decode cX12_asks 14 = .ok (.invokestatic 137, 3) := by decide +kernel
theorem dX12_asks_17 : decode cX12_asks 17 = .ok (.ifCond .eq 15, 3) := by decide +kernel
theorem dX12_asks_20 : decode cX12_asks 20 = .ok (.iload_n 2, 1) := by decide +kernel
theorem dX12_asks_21 : decode cX12_asks 21 = .ok (.i2l, 1) := by decide +kernel
theorem dX12_asks_22 : decode cX12_asks 22 = .ok (.lconst 0, 1) := by decide +kernel
theorem dX12_asks_23 : decode cX12_asks 23 = .ok (.ldc2_w 170, 3) := by decide +kernel
theorem dX12_asks_26 : decode cX12_asks 26 = .ok (.invokestatic 137, 3) := by decide +kernel
theorem dX12_asks_29 : decode cX12_asks 29 = .ok (.ifCond .ne 13, 3) := by decide +kernel
theorem dX12_asks_32 : decode cX12_asks 32 = .ok (.aload_n 0, 1) := by decide +kernel
theorem dX12_asks_33 : decode cX12_asks 33 = .ok (.bipush (-2), 2) := by decide +kernel
theorem dX12_asks_35 : decode cX12_asks 35 = .ok (.putfield 127, 3) := by decide +kernel
theorem dX12_asks_38 : decode cX12_asks 38 = .ok (.sipush (-2000), 3) := by decide +kernel
theorem dX12_asks_41 : decode cX12_asks 41 = .ok (.ireturn, 1) := by decide +kernel
theorem dX12_asks_42 : decode cX12_asks 42 = .ok (.aload_n 0, 1) := by decide +kernel
theorem dX12_asks_43 : decode cX12_asks 43 = .ok (.getfield 7, 3) := by decide +kernel
theorem dX12_asks_46 : decode cX12_asks 46 = .ok (.iload_n 1, 1) := by decide +kernel
theorem dX12_asks_47 : decode cX12_asks 47 = .ok (.iaload, 1) := by decide +kernel
theorem dX12_asks_48 : decode cX12_asks 48 = .ok (.istore 4, 2) := by decide +kernel
theorem dX12_asks_50 : decode cX12_asks 50 = .ok (.iload_n 2, 1) := by decide +kernel
theorem dX12_asks_51 : decode cX12_asks 51 = .ok (.ifCond .ne 13, 3) := by decide +kernel
theorem dX12_asks_54 : decode cX12_asks 54 = .ok (.aload_n 0, 1) := by decide +kernel
theorem dX12_asks_55 : decode cX12_asks 55 = .ok (.iload 4, 2) := by decide +kernel
theorem dX12_asks_57 : decode cX12_asks 57 = .ok (.iload_n 3, 1) := by decide +kernel
theorem dX12_asks_58 : decode cX12_asks 58 = .ok (.invokevirtual 174, 3) := by decide +kernel
theorem dX12_asks_61 : decode cX12_asks 61 = .ok (.goto 22, 3) := by decide +kernel
theorem dX12_asks_64 : decode cX12_asks 64 = .ok (.iload_n 2, 1) := by decide +kernel
theorem dX12_asks_65 : decode cX12_asks 65 = .ok (.iconst 1, 1) := by decide +kernel
theorem dX12_asks_66 : decode cX12_asks 66 = .ok (.if_icmp .ne 12, 3) := by decide +kernel
theorem dX12_asks_69 : decode cX12_asks 69 = .ok (.aload_n 0, 1) := by decide +kernel
theorem dX12_asks_70 : decode cX12_asks 70 = .ok (.iload 4, 2) := by decide +kernel
theorem dX12_asks_72 : decode cX12_asks 72 = .ok (.invokevirtual 178, 3) := by decide +kernel
theorem dX12_asks_75 : decode cX12_asks 75 = .ok (.goto 8, 3) := by decide +kernel
theorem dX12_asks_78 : decode cX12_asks 78 = .ok (.iload 4, 2) := by decide +kernel
theorem dX12_asks_80 : decode cX12_asks 80 = .ok (.invokestatic 181, 3) := by decide +kernel
theorem dX12_asks_83 : decode cX12_asks 83 = .ok (.ireturn, 1) := by decide +kernel
theorem dX12_put_0 : decode cX12_put 0 = .ok (.aload_n 0, 1) := by decide +kernel
theorem dX12_put_1 : decode cX12_put 1 = .ok (.invokevirtual 144, 3) := by decide +kernel
theorem dX12_put_4 : decode cX12_put 4 = .ok (.aload_n 0, 1) := by decide +kernel
theorem dX12_put_5 : decode cX12_put 5 = .ok (.iload_n 1, 1) := by decide +kernel
theorem dX12_put_6 : decode cX12_put 6 = .ok (.invokevirtual 184, 3) := by decide +kernel
theorem dX12_put_9 : decode cX12_put 9 = .ok (.ifCond .eq 75, 3) := by decide +kernel
theorem dX12_put_12 : decode cX12_put 12 = .ok (.iload_n 2, 1) := by decide +kernel
theorem dX12_put_13 : decode cX12_put 13 = .ok (.i2l, 1) := by decide +kernel
theorem dX12_put_14 : decode cX12_put 14 = .ok (.lconst 0, 1) := by decide +kernel
theorem dX12_put_15 : decode cX12_put 15 = .ok (.aload_n 0, 1) := by decide +kernel
theorem dX12_put_16 : decode cX12_put 16 = .ok (.getfield 45, 3) := by decide +kernel
theorem dX12_put_19 : decode cX12_put 19 = .ok (.iload_n 1, 1) := by decide +kernel
theorem dX12_put_20 : decode cX12_put 20 = .ok (.iaload, 1) := by decide +kernel
theorem dX12_put_21 : decode cX12_put 21 = .ok (.i2l, 1) := by decide +kernel
theorem dX12_put_22 : decode cX12_put 22 = .ok (.invokestatic 137, 3) := by decide +kernel
theorem dX12_put_25 : decode cX12_put 25 = .ok (.ifCond .eq 59, 3) := by decide +kernel
theorem dX12_put_28 : decode cX12_put 28 = .ok (.iload_n 3, 1) := by decide +kernel
theorem dX12_put_29 : decode cX12_put 29 = .ok (.i2l, 1) := by decide +kernel
theorem dX12_put_30 : decode cX12_put 30 = .ok (.lconst 0, 1) := by decide +kernel
theorem dX12_put_31 : decode cX12_put 31 = .ok (.ldc2_w 172, 3) := by decide +kernel
theorem dX12_put_34 : decode cX12_put 34 = .ok (.invokestatic 137, 3) := by decide +kernel
theorem dX12_put_37 : decode cX12_put 37 = .ok (.ifCond .eq 47, 3) := by decide +kernel
theorem dX12_put_40 : decode cX12_put 40 = .ok (.iload_n 3, 1) := by decide +kernel
theorem dX12_put_41 : decode cX12_put 41 = .ok (.iconst 3, 1) := by decide +kernel
theorem dX12_put_42 : decode cX12_put 42 = .ok (.if_icmp .ge 16, 3) := by decide +kernel
theorem dX12_put_45 : decode cX12_put 45 = .ok (.iload 4, 2) := by decide +kernel
theorem dX12_put_47 : decode cX12_put 47 = .ok (.i2l, 1) := by decide +kernel
theorem dX12_put_48 : decode cX12_put 48 = .ok (.lconst 0, 1) := by decide +kernel
theorem dX12_put_49 : decode cX12_put 49 = .ok (.ldc2_w 188, 3) := by decide +kernel
theorem dX12_put_52 : decode cX12_put 52 = .ok (.invokestatic 137, 3) := by decide +kernel
theorem dX12_put_55 : decode cX12_put 55 = .ok (.ifCond .eq 29, 3) := by decide +kernel
theorem dX12_put_58 : decode cX12_put 58 = .ok (.iload 5, 2) := by decide +kernel
theorem dX12_put_60 : decode cX12_put 60 = .ok (.i2l, 1) := by decide +kernel
theorem dX12_put_61 : decode cX12_put 61 = .ok (.lconst 0, 1) := by decide +kernel
theorem dX12_put_62 : decode cX12_put 62 = .ok (.ldc2_w 147, 3) := by decide +kernel
theorem dX12_put_65 : decode cX12_put 65 = .ok (.invokestatic 137, 3) := by decide +kernel
theorem dX12_put_68 : decode cX12_put 68 = .ok (.ifCond .eq 16, 3) := by decide +kernel
theorem dX12_put_71 : decode cX12_put 71 = .ok (.iload 6, 2) := by decide +kernel
theorem dX12_put_73 : decode cX12_put 73 = .ok (.i2l, 1) := by decide +kernel
theorem dX12_put_74 : decode cX12_put 74 = .ok (.lconst 0, 1) := by decide +kernel
theorem dX12_put_75 : decode cX12_put 75 = .ok (.ldc2_w 170, 3) := by decide +kernel
theorem dX12_put_78 : decode cX12_put 78 = .ok (.invokestatic 137, 3) := by decide +kernel
theorem dX12_put_81 : decode cX12_put 81 = .ok (.ifCond .ne 10, 3) := by decide +kernel
theorem dX12_put_84 : decode cX12_put 84 = .ok (.aload_n 0, 1) := by decide +kernel
theorem dX12_put_85 : decode cX12_put 85 = .ok (.bipush (-2), 2) := by decide +kernel
theorem dX12_put_87 : decode cX12_put 87 = .ok (.invokevirtual 130, 3) := by decide +kernel
theorem dX12_put_90 : decode cX12_put 90 = .ok (.ireturn, 1) := by decide +kernel
theorem dX12_put_91 : decode cX12_put 91 = .ok (.aload_n 0, 1) := by decide +kernel
theorem dX12_put_92 : decode cX12_put 92 = .ok (.getfield 141, 3) := by decide +kernel
theorem dX12_put_95 : decode cX12_put 95 = .ok (.sipush 150, 3) := by decide +kernel
theorem dX12_put_98 : decode cX12_put 98 = .ok (.if_icmp .eq 14, 3) := by decide +kernel
theorem dX12_put_101 : decode cX12_put 101 = .ok (.aload_n 0, 1) := by decide +kernel
theorem dX12_put_102 : decode cX12_put 102 = .ok (.getfield 45, 3) := by decide +kernel
theorem dX12_put_105 : decode cX12_put 105 = .ok (.iload_n 1, 1) := by decide +kernel
theorem dX12_put_106 : decode cX12_put 106 = .ok (.iaload, 1) := by decide +kernel
theorem dX12_put_107 : decode cX12_put 107 = .ok (.bipush 40, 2) := by decide +kernel
theorem dX12_put_109 : decode cX12_put 109 = .ok (.if_icmp .ne 10, 3) := by decide +kernel
theorem dX12_put_112 : decode cX12_put 112 = .ok (.aload_n 0, 1) := by decide +kernel
theorem dX12_put_113 : decode cX12_put 113 = .ok (.bipush (-4), 2) := by decide +kernel
theorem dX12_put_115 : decode cX12_put 115 = .ok (.invokevirtual 130, 3) := by decide +kernel
theorem dX12_put_118 : decode cX12_put 118 = .ok (.ireturn, 1) := by decide +kernel
theorem dX12_put_119 : decode cX12_put 119 = .ok (.aload_n 0, 1) := by decide +kernel
theorem dX12_put_120 : decode cX12_put 120 = .ok (.getfield 141, 3) := by decide +kernel
theorem dX12_put_123 : decode cX12_put 123 = .ok (.istore 7, 2) := by decide +kernel
theorem dX12_put_125 : decode cX12_put 125 = .ok (.aload_n 0, 1) := by decide +kernel
theorem dX12_put_126 : decode cX12_put 126 = .ok (.dup, 1) := by decide +kernel
theorem dX12_put_127 : decode cX12_put 127 = .ok (.getfield 141, 3) := by decide +kernel
theorem dX12_put_130 : decode cX12_put 130 = .ok (.iconst 1, 1) := by decide +kernel
theorem dX12_put_131 : decode cX12_put 131 = .ok (.iadd, 1) := by decide +kernel
theorem dX12_put_132 : decode cX12_put 132 = .ok (.putfield 141, 3) := by decide +kernel
theorem dX12_put_135 : decode cX12_put 135 = .ok (.aload_n 0, 1) := by decide +kernel
theorem dX12_put_136 : decode cX12_put 136 = .ok (.dup, 1) := by decide +kernel
theorem dX12_put_137 : decode cX12_put 137 = .ok (.getfield 190, 3) := by decide +kernel
theorem dX12_put_140 : decode cX12_put 140 = .ok (.iconst 1, 1) := by decide +kernel
theorem dX12_put_141 : decode cX12_put 141 = .ok (.iadd, 1) := by decide +kernel
theorem dX12_put_142 : decode cX12_put 142 = .ok (.putfield 190, 3) := by decide +kernel
theorem dX12_put_145 : decode cX12_put 145 = .ok (.aload_n 0, 1) := by decide +kernel
theorem dX12_put_146 : decode cX12_put 146 = .ok (.getfield 17, 3) := by decide +kernel
theorem dX12_put_149 : decode cX12_put 149 = .ok (.iload 7, 2) := by decide +kernel
theorem dX12_put_151 : decode cX12_put 151 = .ok (.iconst 1, 1) := by decide +kernel
theorem dX12_put_152 : decode cX12_put 152 = .ok (.bastore, 1) := by decide +kernel
theorem dX12_put_153 : decode cX12_put 153 = .ok (.aload_n 0, 1) := by decide +kernel
theorem dX12_put_154 : decode cX12_put 154 = .ok (.getfield 21, 3) := by decide +kernel
theorem dX12_put_157 : decode cX12_put 157 = .ok (.iload 7, 2) := by decide +kernel
theorem dX12_put_159 : decode cX12_put 159 = .ok (.iload_n 1, 1) := by decide +kernel
theorem dX12_put_160 : decode cX12_put 160 = .ok (.iastore, 1) := by decide +kernel
theorem dX12_put_161 : decode cX12_put 161 = .ok (.aload_n 0, 1) := by decide +kernel
theorem dX12_put_162 : decode cX12_put 162 = .ok (.getfield 24, 3) := by decide +kernel
theorem dX12_put_165 : decode cX12_put 165 = .ok (.iload 7, 2) := by decide +kernel
theorem dX12_put_167 : decode cX12_put 167 = .ok (.iload_n 3, 1) := by decide +kernel
theorem dX12_put_168 : decode cX12_put 168 = .ok (.iastore, 1) := by decide +kernel
theorem dX12_put_169 : decode cX12_put 169 = .ok (.aload_n 0, 1) := by decide +kernel
theorem dX12_put_170 : decode cX12_put 170 = .ok (.getfield 27, 3) := by decide +kernel
theorem dX12_put_173 : decode cX12_put 173 = .ok (.iload 7, 2) := by decide +kernel
theorem dX12_put_175 : decode cX12_put 175 = .ok (.iload_n 3, 1) := by decide +kernel
theorem dX12_put_176 : decode cX12_put 176 = .ok (.iconst 3, 1) := by decide +kernel
theorem dX12_put_177 : decode cX12_put 177 = .ok (.if_icmp .ge 7, 3) := by decide +kernel
theorem dX12_put_180 : decode cX12_put 180 = .ok (.iconst 1, 1) := by decide +kernel
theorem dX12_put_181 : decode cX12_put 181 = .ok (.goto 4, 3) := by decide +kernel
theorem dX12_put_184 : decode cX12_put 184 = .ok (.iconst 0, 1) := by decide +kernel
theorem dX12_put_185 : decode cX12_put 185 = .ok (.iastore, 1) := by decide +kernel
theorem dX12_put_186 : decode cX12_put 186 = .ok (.aload_n 0, 1) := by decide +kernel
theorem dX12_put_187 : decode cX12_put 187 = .ok (.getfield 30, 3) := by decide +kernel
theorem dX12_put_190 : decode cX12_put 190 = .ok (.bipush 6, 2) := by decide +kernel
theorem dX12_put_192 : decode cX12_put 192 = .ok (.iload 7, 2) := by decide +kernel
theorem dX12_put_194 : decode cX12_put 194 = .ok (.imul, 1) := by decide +kernel
theorem dX12_put_195 : decode cX12_put 195 = .ok (.iload 4, 2) := by decide +kernel
theorem dX12_put_197 : decode cX12_put 197 = .ok (.iastore, 1) := by decide +kernel
theorem dX12_put_198 : decode cX12_put 198 = .ok (.aload_n 0, 1) := by decide +kernel
theorem dX12_put_199 : decode cX12_put 199 = .ok (.getfield 33, 3) := by decide +kernel
theorem dX12_put_202 : decode cX12_put 202 = .ok (.iload 7, 2) := by decide +kernel
theorem dX12_put_204 : decode cX12_put 204 = .ok (.iload 5, 2) := by decide +kernel
theorem dX12_put_206 : decode cX12_put 206 = .ok (.iastore, 1) := by decide +kernel
theorem dX12_put_207 : decode cX12_put 207 = .ok (.aload_n 0, 1) := by decide +kernel
theorem dX12_put_208 : decode cX12_put 208 = .ok (.getfield 36, 3) := by decide +kernel
theorem dX12_put_211 : decode cX12_put 211 = .ok (.iload 7, 2) := by decide +kernel
theorem dX12_put_213 : decode cX12_put 213 = .ok (.iload 6, 2) := by decide +kernel
theorem dX12_put_215 : decode cX12_put 215 = .ok (.iastore, 1) := by decide +kernel
theorem dX12_put_216 : decode cX12_put 216 = .ok (.aload_n 0, 1) := by decide +kernel
theorem dX12_put_217 : decode cX12_put 217 = .ok (.getfield 39, 3) := by decide +kernel
theorem dX12_put_220 : decode cX12_put 220 = .ok (.iload 7, 2) := by decide +kernel
theorem dX12_put_222 : decode cX12_put 222 = .ok (.iconst 0, 1) := by decide +kernel
theorem dX12_put_223 : decode cX12_put 223 = .ok (.bastore, 1) := by decide +kernel
theorem dX12_put_224 : decode cX12_put 224 = .ok (.aload_n 0, 1) := by decide +kernel
theorem dX12_put_225 : decode cX12_put 225 = .ok (.getfield 45, 3) := by decide +kernel
theorem dX12_put_228 : decode cX12_put 228 = .ok (.iload_n 1, 1) := by decide +kernel
theorem dX12_put_229 : decode cX12_put 229 = .ok (.iaload, 1) := by decide +kernel
theorem dX12_put_230 : decode cX12_put 230 = .ok (.istore 8, 2) := by decide +kernel
theorem dX12_put_232 : decode cX12_put 232 = .ok (.iload 8, 2) := by decide +kernel
theorem dX12_put_234 : decode cX12_put 234 = .ok (.iload_n 2, 1) := by decide +kernel
theorem dX12_put_235 : decode cX12_put 235 = .ok (.if_icmp .le 35, 3) := by decide +kernel
theorem dX12_put_238 : decode cX12_put 238 = .ok (.aload_n 0, 1) := by decide +kernel
theorem dX12_put_239 : decode cX12_put 239 = .ok (.getfield 42, 3) := by decide +kernel
theorem dX12_put_242 : decode cX12_put 242 = .ok (.bipush 40, 2) := by decide +kernel
theorem dX12_put_244 : decode cX12_put 244 = .ok (.iload_n 1, 1) := by decide +kernel
theorem dX12_put_245 : decode cX12_put 245 = .ok (.imul, 1) := by decide +kernel
theorem dX12_put_246 : decode cX12_put 246 = .ok (.iload 8, 2) := by decide +kernel
theorem dX12_put_248 : decode cX12_put 248 = .ok (.iadd, 1) := by decide +kernel
theorem dX12_put_249 : decode cX12_put 249 = .ok (.aload_n 0, 1) := by decide +kernel
theorem dX12_put_250 : decode cX12_put 250 = .ok (.getfield 42, 3) := by decide +kernel
theorem dX12_put_253 : decode cX12_put 253 = .ok (.bipush 40, 2) := by decide +kernel
theorem dX12_put_255 : decode cX12_put 255 = .ok (.iload_n 1, 1) := by decide +kernel
theorem dX12_put_256 : decode cX12_put 256 = .ok (.imul, 1) := by decide +kernel
theorem dX12_put_257 : decode cX12_put 257 = .ok (.iload 8, 2) := by decide +kernel
theorem dX12_put_259 : decode cX12_put 259 = .ok (.iadd, 1) := by decide +kernel
theorem dX12_put_260 : decode cX12_put 260 = .ok (.iconst 1, 1) := by decide +kernel
theorem dX12_put_261 : decode cX12_put 261 = .ok (.isub, 1) := by decide +kernel
theorem dX12_put_262 : decode cX12_put 262 = .ok (.iaload, 1) := by decide +kernel
theorem dX12_put_263 : decode cX12_put 263 = .ok (.iastore, 1) := by decide +kernel
theorem dX12_put_264 : decode cX12_put 264 = .ok (.iinc 8 (-1), 3) := by decide +kernel
theorem dX12_put_267 : decode cX12_put 267 = .ok (.goto (-35), 3) := by decide +kernel
theorem dX12_put_270 : decode cX12_put 270 = .ok (.aload_n 0, 1) := by decide +kernel
theorem dX12_put_271 : decode cX12_put 271 = .ok (.getfield 42, 3) := by decide +kernel
theorem dX12_put_274 : decode cX12_put 274 = .ok (.bipush 40, 2) := by decide +kernel
theorem dX12_put_276 : decode cX12_put 276 = .ok (.iload_n 1, 1) := by decide +kernel
theorem dX12_put_277 : decode cX12_put 277 = .ok (.imul, 1) := by decide +kernel
theorem dX12_put_278 : decode cX12_put 278 = .ok (.iload_n 2, 1) := by decide +kernel
theorem dX12_put_279 : decode cX12_put 279 = .ok (.iadd, 1) := by decide +kernel
theorem dX12_put_280 : decode cX12_put 280 = .ok (.iload 7, 2) := by decide +kernel
theorem dX12_put_282 : decode cX12_put 282 = .ok (.iastore, 1) := by decide +kernel
theorem dX12_put_283 : decode cX12_put 283 = .ok (.aload_n 0, 1) := by decide +kernel
theorem dX12_put_284 : decode cX12_put 284 = .ok (.getfield 45, 3) := by decide +kernel
theorem dX12_put_287 : decode cX12_put 287 = .ok (.iload_n 1, 1) := by decide +kernel
theorem dX12_put_288 : decode cX12_put 288 = .ok (.dup2, 1) := by decide +kernel
theorem dX12_put_289 : decode cX12_put 289 = .ok (.iaload, 1) := by decide +kernel
theorem dX12_put_290 : decode cX12_put 290 = .ok (.iconst 1, 1) := by decide +kernel
theorem dX12_put_291 : decode cX12_put 291 = .ok (.iadd, 1) := by decide +kernel
theorem dX12_put_292 : decode cX12_put 292 = .ok (.iastore, 1) := by decide +kernel
theorem dX12_put_293 : decode cX12_put 293 = .ok (.iload 7, 2) := by decide +kernel
theorem dX12_put_295 : decode cX12_put 295 = .ok (.ireturn, 1) := by decide +kernel
theorem dX12_drop_0 : decode cX12_drop 0 = .ok (.aload_n 0, 1) := by decide +kernel
theorem dX12_drop_1 : decode cX12_drop 1 = .ok (.invokevirtual 144, 3) := by decide +kernel
theorem dX12_drop_4 : decode cX12_drop 4 = .ok (.aload_n 0, 1) := by decide +kernel
theorem dX12_drop_5 : decode cX12_drop 5 = .ok (.iload_n 1, 1) := by decide +kernel
theorem dX12_drop_6 : decode cX12_drop 6 = .ok (.invokevirtual 193, 3) := by decide +kernel
theorem dX12_drop_9 : decode cX12_drop 9 = .ok (.ifCond .ne 10, 3) := by decide +kernel
theorem dX12_drop_12 : decode cX12_drop 12 = .ok (.aload_n 0, 1) := by decide +kernel
theorem dX12_drop_13 : decode cX12_drop 13 = .ok (.bipush (-2), 2) := by decide +kernel
theorem dX12_drop_15 : decode cX12_drop 15 = .ok (.invokevirtual 130, 3) := by decide +kernel
theorem dX12_drop_18 : decode cX12_drop 18 = .ok (.ireturn, 1) := by decide +kernel
theorem dX12_drop_19 : decode cX12_drop 19 = .ok (.aload_n 0, 1) := by decide +kernel
theorem dX12_drop_20 : decode cX12_drop 20 = .ok (.getfield 21, 3) := by decide +kernel
theorem dX12_drop_23 : decode cX12_drop 23 = .ok (.iload_n 1, 1) := by decide +kernel
theorem dX12_drop_24 : decode cX12_drop 24 = .ok (.iaload, 1) := by decide +kernel
theorem dX12_drop_25 : decode cX12_drop 25 = .ok (.istore_n 2, 1) := by decide +kernel
theorem dX12_drop_26 : decode cX12_drop 26 = .ok (.aload_n 0, 1) := by decide +kernel
theorem dX12_drop_27 : decode cX12_drop 27 = .ok (.iload_n 1, 1) := by decide +kernel
theorem dX12_drop_28 : decode cX12_drop 28 = .ok (.invokevirtual 196, 3) := by decide +kernel
theorem dX12_drop_31 : decode cX12_drop 31 = .ok (.istore_n 3, 1) := by decide +kernel
theorem dX12_drop_32 : decode cX12_drop 32 = .ok (.iconst 0, 1) := by decide +kernel
theorem dX12_drop_33 : decode cX12_drop 33 = .ok (.istore 4, 2) := by decide +kernel
theorem dX12_drop_35 : decode cX12_drop 35 = .ok (.iload 4, 2) := by decide +kernel
theorem dX12_drop_37 : decode cX12_drop 37 = .ok (.aload_n 0, 1) := by decide +kernel
theorem dX12_drop_38 : decode cX12_drop 38 = .ok (.getfield 199, 3) := by decide +kernel
theorem dX12_drop_41 : decode cX12_drop 41 = .ok (.if_icmp .ge 147, 3) := by decide +kernel
theorem dX12_drop_44 : decode cX12_drop 44 = .ok (.aload_n 0, 1) := by decide +kernel
theorem dX12_drop_45 : decode cX12_drop 45 = .ok (.getfield 48, 3) := by decide +kernel
theorem dX12_drop_48 : decode cX12_drop 48 = .ok (.iload 4, 2) := by decide +kernel
theorem dX12_drop_50 : decode cX12_drop 50 = .ok (.baload, 1) := by decide +kernel
theorem dX12_drop_51 : decode cX12_drop 51 = .ok (.ifCond .eq 46, 3) := by decide +kernel
theorem dX12_drop_54 : decode cX12_drop 54 = .ok (.aload_n 0, 1) := by decide +kernel
theorem dX12_drop_55 : decode cX12_drop 55 = .ok (.getfield 54, 3) := by decide +kernel
theorem dX12_drop_58 : decode cX12_drop 58 = .ok (.iload 4, 2) := by decide +kernel
theorem dX12_drop_60 : decode cX12_drop 60 = .ok (.iaload, 1) := by decide +kernel
theorem dX12_drop_61 : decode cX12_drop 61 = .ok (.iload_n 1, 1) := by decide +kernel
theorem dX12_drop_62 : decode cX12_drop 62 = .ok (.if_icmp .ne 35, 3) := by decide +kernel
theorem dX12_drop_65 : decode cX12_drop 65 = .ok (.aload_n 0, 1) := by decide +kernel
theorem dX12_drop_66 : decode cX12_drop 66 = .ok (.getfield 57, 3) := by decide +kernel
theorem dX12_drop_69 : decode cX12_drop 69 = .ok (.iload 4, 2) := by decide +kernel
theorem dX12_drop_71 : decode cX12_drop 71 = .ok (.iaload, 1) := by decide +kernel
theorem dX12_drop_72 : decode cX12_drop 72 = .ok (.iload_n 1, 1) := by decide +kernel
theorem dX12_drop_73 : decode cX12_drop 73 = .ok (.if_icmp .ne 24, 3) := by decide +kernel
theorem dX12_drop_76 : decode cX12_drop 76 = .ok (.aload_n 0, 1) := by decide +kernel
theorem dX12_drop_77 : decode cX12_drop 77 = .ok (.getfield 48, 3) := by decide +kernel
theorem dX12_drop_80 : decode cX12_drop 80 = .ok (.iload 4, 2) := by decide +kernel
theorem dX12_drop_82 : decode cX12_drop 82 = .ok (.iconst 0, 1) := by decide +kernel
theorem dX12_drop_83 : decode cX12_drop 83 = .ok (.bastore, 1) := by decide +kernel
theorem dX12_drop_84 : decode cX12_drop 84 = .ok (.aload_n 0, 1) := by decide +kernel
theorem dX12_drop_85 : decode cX12_drop 85 = .ok (.dup, 1) := by decide +kernel
theorem dX12_drop_86 : decode cX12_drop 86 = .ok (.getfield 202, 3) := by decide +kernel
theorem dX12_drop_89 : decode cX12_drop 89 = .ok (.iconst 1, 1) := by decide +kernel
theorem dX12_drop_90 : decode cX12_drop 90 = .ok (.isub, 1) := by decide +kernel
theorem dX12_drop_91 : decode cX12_drop 91 = .ok (.putfield 202, 3) := by decide +kernel
theorem dX12_drop_94 : decode cX12_drop 94 = .ok (.goto 88, 3) := by decide +kernel
theorem dX12_drop_97 : decode cX12_drop 97 = .ok (.aload_n 0, 1) := by decide +kernel
theorem dX12_drop_98 : decode cX12_drop 98 = .ok (.getfield 48, 3) := by decide +kernel
theorem dX12_drop_101 : decode cX12_drop 101 = .ok (.iload 4, 2) := by decide +kernel
theorem dX12_drop_103 : decode cX12_drop 103 = .ok (.baload, 1) := by decide +kernel
theorem dX12_drop_104 : decode cX12_drop 104 = .ok (.ifCond .eq 37, 3) := by decide +kernel
theorem dX12_drop_107 : decode cX12_drop 107 = .ok (.aload_n 0, 1) := by decide +kernel
theorem dX12_drop_108 : decode cX12_drop 108 = .ok (.getfield 54, 3) := by decide +kernel
theorem dX12_drop_111 : decode cX12_drop 111 = .ok (.iload 4, 2) := by decide +kernel
theorem dX12_drop_113 : decode cX12_drop 113 = .ok (.iaload, 1) := by decide +kernel
theorem dX12_drop_114 : decode cX12_drop 114 = .ok (.iload_n 1, 1) := by decide +kernel
theorem dX12_drop_115 : decode cX12_drop 115 = .ok (.if_icmp .ne 26, 3) := by decide +kernel
theorem dX12_drop_118 : decode cX12_drop 118 = .ok (.aload_n 0, 1) := by decide +kernel
theorem dX12_drop_119 : decode cX12_drop 119 = .ok (.getfield 54, 3) := by decide +kernel
theorem dX12_drop_122 : decode cX12_drop 122 = .ok (.iload 4, 2) := by decide +kernel
theorem dX12_drop_124 : decode cX12_drop 124 = .ok (.aload_n 0, 1) := by decide +kernel
theorem dX12_drop_125 : decode cX12_drop 125 = .ok (.getfield 42, 3) := by decide +kernel
theorem dX12_drop_128 : decode cX12_drop 128 = .ok (.bipush 40, 2) := by decide +kernel
theorem dX12_drop_130 : decode cX12_drop 130 = .ok (.iload_n 2, 1) := by decide +kernel
theorem dX12_drop_131 : decode cX12_drop 131 = .ok (.imul, 1) := by decide +kernel
theorem dX12_drop_132 : decode cX12_drop 132 = .ok (.iload_n 3, 1) := by decide +kernel
theorem dX12_drop_133 : decode cX12_drop 133 = .ok (.iadd, 1) := by decide +kernel
theorem dX12_drop_134 : decode cX12_drop 134 = .ok (.iconst 1, 1) := by decide +kernel
theorem dX12_drop_135 : decode cX12_drop 135 = .ok (.iadd, 1) := by decide +kernel
theorem dX12_drop_136 : decode cX12_drop 136 = .ok (.iaload, 1) := by decide +kernel
theorem dX12_drop_137 : decode cX12_drop 137 = .ok (.iastore, 1) := by decide +kernel
theorem dX12_drop_138 : decode cX12_drop 138 = .ok (.goto 44, 3) := by decide +kernel
theorem dX12_drop_141 : decode cX12_drop 141 = .ok (.aload_n 0, 1) := by decide +kernel
theorem dX12_drop_142 : decode cX12_drop 142 = .ok (.getfield 48, 3) := by decide +kernel
theorem dX12_drop_145 : decode cX12_drop 145 = .ok (.iload 4, 2) := by decide +kernel
theorem dX12_drop_147 : decode cX12_drop 147 = .ok (.baload, 1) := by decide +kernel
theorem dX12_drop_148 : decode cX12_drop 148 = .ok (.ifCond .eq 34, 3) := by decide +kernel
theorem dX12_drop_151 : decode cX12_drop 151 = .ok (.aload_n 0, 1) := by decide +kernel
theorem dX12_drop_152 : decode cX12_drop 152 = .ok (.getfield 57, 3) := by decide +kernel
theorem dX12_drop_155 : decode cX12_drop 155 = .ok (.iload 4, 2) := by decide +kernel
theorem dX12_drop_157 : decode cX12_drop 157 = .ok (.iaload, 1) := by decide +kernel
theorem dX12_drop_158 : decode cX12_drop 158 = .ok (.iload_n 1, 1) := by decide +kernel
theorem dX12_drop_159 : decode cX12_drop 159 = .ok (.if_icmp .ne 23, 3) := by decide +kernel
theorem dX12_drop_162 : decode cX12_drop 162 = .ok (.aload_n 0, 1) := by decide +kernel
theorem dX12_drop_163 : decode cX12_drop 163 = .ok (.getfield 57, 3) := by decide +kernel
theorem dX12_drop_166 : decode cX12_drop 166 = .ok (.iload 4, 2) := by decide +kernel
theorem dX12_drop_168 : decode cX12_drop 168 = .ok (.aload_n 0, 1) := by decide +kernel
theorem dX12_drop_169 : decode cX12_drop 169 = .ok (.getfield 42, 3) := by decide +kernel
theorem dX12_drop_172 : decode cX12_drop 172 = .ok (.bipush 40, 2) := by decide +kernel
theorem dX12_drop_174 : decode cX12_drop 174 = .ok (.iload_n 2, 1) := by decide +kernel
theorem dX12_drop_175 : decode cX12_drop 175 = .ok (.imul, 1) := by decide +kernel
theorem dX12_drop_176 : decode cX12_drop 176 = .ok (.iload_n 3, 1) := by decide +kernel
theorem dX12_drop_177 : decode cX12_drop 177 = .ok (.iadd, 1) := by decide +kernel
theorem dX12_drop_178 : decode cX12_drop 178 = .ok (.iconst 1, 1) := by decide +kernel
theorem dX12_drop_179 : decode cX12_drop 179 = .ok (.isub, 1) := by decide +kernel
theorem dX12_drop_180 : decode cX12_drop 180 = .ok (.iaload, 1) := by decide +kernel
theorem dX12_drop_181 : decode cX12_drop 181 = .ok (.iastore, 1) := by decide +kernel
theorem dX12_drop_182 : decode cX12_drop 182 = .ok (.iinc 4 1, 3) := by decide +kernel
theorem dX12_drop_185 : decode cX12_drop 185 = .ok (.goto (-150), 3) := by decide +kernel
theorem dX12_drop_188 : decode cX12_drop 188 = .ok (.iconst 0, 1) := by decide +kernel
theorem dX12_drop_189 : decode cX12_drop 189 = .ok (.istore 4, 2) := by decide +kernel
theorem dX12_drop_191 : decode cX12_drop 191 = .ok (.iload 4, 2) := by decide +kernel
theorem dX12_drop_193 : decode cX12_drop 193 = .ok (.aload_n 0, 1) := by decide +kernel
theorem dX12_drop_194 : decode cX12_drop 194 = .ok (.getfield 205, 3) := by decide +kernel
theorem dX12_drop_197 : decode cX12_drop 197 = .ok (.if_icmp .ge 80, 3) := by decide +kernel
theorem dX12_drop_200 : decode cX12_drop 200 = .ok (.aload_n 0, 1) := by decide +kernel
theorem dX12_drop_201 : decode cX12_drop 201 = .ok (.getfield 69, 3) := by decide +kernel
theorem dX12_drop_204 : decode cX12_drop 204 = .ok (.iload 4, 2) := by decide +kernel
theorem dX12_drop_206 : decode cX12_drop 206 = .ok (.baload, 1) := by decide +kernel
theorem dX12_drop_207 : decode cX12_drop 207 = .ok (.ifCond .eq 35, 3) := by decide +kernel
theorem dX12_drop_210 : decode cX12_drop 210 = .ok (.aload_n 0, 1) := by decide +kernel
theorem dX12_drop_211 : decode cX12_drop 211 = .ok (.getfield 75, 3) := by decide +kernel
theorem dX12_drop_214 : decode cX12_drop 214 = .ok (.iload 4, 2) := by decide +kernel
theorem dX12_drop_216 : decode cX12_drop 216 = .ok (.iaload, 1) := by decide +kernel
theorem dX12_drop_217 : decode cX12_drop 217 = .ok (.iload_n 1, 1) := by decide +kernel
theorem dX12_drop_218 : decode cX12_drop 218 = .ok (.if_icmp .ne 24, 3) := by decide +kernel
theorem dX12_drop_221 : decode cX12_drop 221 = .ok (.aload_n 0, 1) := by decide +kernel
theorem dX12_drop_222 : decode cX12_drop 222 = .ok (.getfield 69, 3) := by decide +kernel
theorem dX12_drop_225 : decode cX12_drop 225 = .ok (.iload 4, 2) := by decide +kernel
theorem dX12_drop_227 : decode cX12_drop 227 = .ok (.iconst 0, 1) := by decide +kernel
theorem dX12_drop_228 : decode cX12_drop 228 = .ok (.bastore, 1) := by decide +kernel
theorem dX12_drop_229 : decode cX12_drop 229 = .ok (.aload_n 0, 1) := by decide +kernel
theorem dX12_drop_230 : decode cX12_drop 230 = .ok (.dup, 1) := by decide +kernel
theorem dX12_drop_231 : decode cX12_drop 231 = .ok (.getfield 208, 3) := by decide +kernel
theorem dX12_drop_234 : decode cX12_drop 234 = .ok (.iconst 1, 1) := by decide +kernel
theorem dX12_drop_235 : decode cX12_drop 235 = .ok (.isub, 1) := by decide +kernel
theorem dX12_drop_236 : decode cX12_drop 236 = .ok (.putfield 208, 3) := by decide +kernel
theorem dX12_drop_239 : decode cX12_drop 239 = .ok (.goto 32, 3) := by decide +kernel
theorem dX12_drop_242 : decode cX12_drop 242 = .ok (.aload_n 0, 1) := by decide +kernel
theorem dX12_drop_243 : decode cX12_drop 243 = .ok (.getfield 69, 3) := by decide +kernel
theorem dX12_drop_246 : decode cX12_drop 246 = .ok (.iload 4, 2) := by decide +kernel
theorem dX12_drop_248 : decode cX12_drop 248 = .ok (.baload, 1) := by decide +kernel
theorem dX12_drop_249 : decode cX12_drop 249 = .ok (.ifCond .eq 22, 3) := by decide +kernel
theorem dX12_drop_252 : decode cX12_drop 252 = .ok (.aload_n 0, 1) := by decide +kernel
theorem dX12_drop_253 : decode cX12_drop 253 = .ok (.getfield 78, 3) := by decide +kernel
theorem dX12_drop_256 : decode cX12_drop 256 = .ok (.iload 4, 2) := by decide +kernel
theorem dX12_drop_258 : decode cX12_drop 258 = .ok (.iaload, 1) := by decide +kernel
theorem dX12_drop_259 : decode cX12_drop 259 = .ok (.iload_n 1, 1) := by decide +kernel
theorem dX12_drop_260 : decode cX12_drop 260 = .ok (.if_icmp .ne 11, 3) := by decide +kernel
theorem dX12_drop_263 : decode cX12_drop 263 = .ok (.aload_n 0, 1) := by decide +kernel
theorem dX12_drop_264 : decode cX12_drop 264 = .ok (.getfield 78, 3) := by decide +kernel
theorem dX12_drop_267 : decode cX12_drop 267 = .ok (.iload 4, 2) := by decide +kernel
theorem dX12_drop_269 : decode cX12_drop 269 = .ok (.iconst (-1), 1) := by decide +kernel
theorem dX12_drop_270 : decode cX12_drop 270 = .ok (.iastore, 1) := by decide +kernel
theorem dX12_drop_271 : decode cX12_drop 271 = .ok (.iinc 4 1, 3) := by decide +kernel
theorem dX12_drop_274 : decode cX12_drop 274 = .ok (.goto (-83), 3) := by decide +kernel
theorem dX12_drop_277 : decode cX12_drop 277 = .ok (.iconst 0, 1) := by decide +kernel
theorem dX12_drop_278 : decode cX12_drop 278 = .ok (.istore 4, 2) := by decide +kernel
theorem dX12_drop_280 : decode cX12_drop 280 = .ok (.iload 4, 2) := by decide +kernel
theorem dX12_drop_282 : decode cX12_drop 282 = .ok (.bipush 80, 2) := by decide +kernel
theorem dX12_drop_284 : decode cX12_drop 284 = .ok (.if_icmp .ge 38, 3) := by decide +kernel
theorem dX12_drop_287 : decode cX12_drop 287 = .ok (.aload_n 0, 1) := by decide +kernel
theorem dX12_drop_288 : decode cX12_drop 288 = .ok (.getfield 96, 3) := by decide +kernel
theorem dX12_drop_291 : decode cX12_drop 291 = .ok (.iload 4, 2) := by decide +kernel
theorem dX12_drop_293 : decode cX12_drop 293 = .ok (.aload_n 0, 1) := by decide +kernel
theorem dX12_drop_294 : decode cX12_drop 294 = .ok (.getfield 96, 3) := by decide +kernel
theorem dX12_drop_297 : decode cX12_drop 297 = .ok (.iload 4, 2) := by decide +kernel
theorem dX12_drop_299 : decode cX12_drop 299 = .ok (.iaload, 1) := by decide +kernel
theorem dX12_drop_300 : decode cX12_drop 300 = .ok (.iload_n 1, 1) := by decide +kernel
theorem dX12_drop_301 : decode cX12_drop 301 = .ok (.if_icmp .ne 7, 3) := by decide +kernel
theorem dX12_drop_304 : decode cX12_drop 304 = .ok (.iconst (-1), 1) := by decide +kernel
theorem dX12_drop_305 : decode cX12_drop 305 = .ok (.goto 10, 3) := by decide +kernel
theorem dX12_drop_308 : decode cX12_drop 308 = .ok (.aload_n 0, 1) := by decide +kernel
theorem dX12_drop_309 : decode cX12_drop 309 = .ok (.getfield 96, 3) := by decide +kernel
theorem dX12_drop_312 : decode cX12_drop 312 = .ok (.iload 4, 2) := by decide +kernel
theorem dX12_drop_314 : decode cX12_drop 314 = .ok (.iaload, 1) := by decide +kernel
theorem dX12_drop_315 : decode cX12_drop 315 = .ok (.iastore, 1) := by decide +kernel
theorem dX12_drop_316 : decode cX12_drop 316 = .ok (.iinc 4 1, 3) := by decide +kernel
theorem dX12_drop_319 : decode cX12_drop 319 = .ok (.goto (-39), 3) := by decide +kernel
theorem dX12_drop_322 : decode cX12_drop 322 = .ok (.iload_n 3, 1) := by decide +kernel
theorem dX12_drop_323 : decode cX12_drop 323 = .ok (.istore 4, 2) := by decide +kernel
theorem dX12_drop_325 : decode cX12_drop 325 = .ok (.iload 4, 2) := by decide +kernel
theorem dX12_drop_327 : decode cX12_drop 327 = .ok (.iconst 1, 1) := by decide +kernel
theorem dX12_drop_328 : decode cX12_drop 328 = .ok (.iadd, 1) := by decide +kernel
theorem dX12_drop_329 : decode cX12_drop 329 = .ok (.aload_n 0, 1) := by decide +kernel
theorem dX12_drop_330 : decode cX12_drop 330 = .ok (.getfield 45, 3) := by decide +kernel
theorem dX12_drop_333 : decode cX12_drop 333 = .ok (.iload_n 2, 1) := by decide +kernel
theorem dX12_drop_334 : decode cX12_drop 334 = .ok (.iaload, 1) := by decide +kernel
theorem dX12_drop_335 : decode cX12_drop 335 = .ok (.if_icmp .ge 35, 3) := by decide +kernel
theorem dX12_drop_338 : decode cX12_drop 338 = .ok (.aload_n 0, 1) := by decide +kernel
theorem dX12_drop_339 : decode cX12_drop 339 = .ok (.getfield 42, 3) := by decide +kernel
theorem dX12_drop_342 : decode cX12_drop 342 = .ok (.bipush 40, 2) := by decide +kernel
theorem dX12_drop_344 : decode cX12_drop 344 = .ok (.iload_n 2, 1) := by decide +kernel
theorem dX12_drop_345 : decode cX12_drop 345 = .ok (.imul, 1) := by decide +kernel
theorem dX12_drop_346 : decode cX12_drop 346 = .ok (.iload 4, 2) := by decide +kernel
theorem dX12_drop_348 : decode cX12_drop 348 = .ok (.iadd, 1) := by decide +kernel
theorem dX12_drop_349 : decode cX12_drop 349 = .ok (.aload_n 0, 1) := by decide +kernel
theorem dX12_drop_350 : decode cX12_drop 350 = .ok (.getfield 42, 3) := by decide +kernel
theorem dX12_drop_353 : decode cX12_drop 353 = .ok (.bipush 40, 2) := by decide +kernel
theorem dX12_drop_355 : decode cX12_drop 355 = .ok (.iload_n 2, 1) := by decide +kernel
theorem dX12_drop_356 : decode cX12_drop 356 = .ok (.imul, 1) := by decide +kernel
theorem dX12_drop_357 : decode cX12_drop 357 = .ok (.iload 4, 2) := by decide +kernel
theorem dX12_drop_359 : decode cX12_drop 359 = .ok (.iadd, 1) := by decide +kernel
theorem dX12_drop_360 : decode cX12_drop 360 = .ok (.iconst 1, 1) := by decide +kernel
theorem dX12_drop_361 : decode cX12_drop 361 = .ok (.iadd, 1) := by decide +kernel
theorem dX12_drop_362 : decode cX12_drop 362 = .ok (.iaload, 1) := by decide +kernel
theorem dX12_drop_363 : decode cX12_drop 363 = .ok (.iastore, 1) := by decide +kernel
theorem dX12_drop_364 : decode cX12_drop 364 = .ok (.iinc 4 1, 3) := by decide +kernel
theorem dX12_drop_367 : decode cX12_drop 367 = .ok (.goto (-42), 3) := by decide +kernel
theorem dX12_drop_370 : decode cX12_drop 370 = .ok (.aload_n 0, 1) := by decide +kernel
theorem dX12_drop_371 : decode cX12_drop 371 = .ok (.getfield 45, 3) := by decide +kernel
theorem dX12_drop_374 : decode cX12_drop 374 = .ok (.iload_n 2, 1) := by decide +kernel
theorem dX12_drop_375 : decode cX12_drop 375 = .ok (.dup2, 1) := by decide +kernel
theorem dX12_drop_376 : decode cX12_drop 376 = .ok (.iaload, 1) := by decide +kernel
theorem dX12_drop_377 : decode cX12_drop 377 = .ok (.iconst 1, 1) := by decide +kernel
theorem dX12_drop_378 : decode cX12_drop 378 = .ok (.isub, 1) := by decide +kernel
theorem dX12_drop_379 : decode cX12_drop 379 = .ok (.iastore, 1) := by decide +kernel
theorem dX12_drop_380 : decode cX12_drop 380 = .ok (.aload_n 0, 1) := by decide +kernel
theorem dX12_drop_381 : decode cX12_drop 381 = .ok (.getfield 17, 3) := by decide +kernel
theorem dX12_drop_384 : decode cX12_drop 384 = .ok (.iload_n 1, 1) := by decide +kernel
