theorem dX8_init_0 : decode cX8_init 0 = .ok (.aload_n 0, 1) := by decide +kernel
theorem dX8_init_1 : decode cX8_init 1 = .ok (.invokespecial 1, 3) := by decide +kernel
theorem dX8_init_4 : decode cX8_init 4 = .ok (.return_, 1) := by decide +kernel
theorem dX8_pass_0 : decode cX8_pass 0 = .ok (.aload_n 1, 1) := by decide +kernel
theorem dX8_pass_1 : decode cX8_pass 1 = .ok (.getfield 7, 3) := by decide +kernel
theorem dX8_pass_4 : decode cX8_pass 4 = .ok (.getfield 13, 3) := by decide +kernel
theorem dX8_pass_7 : decode cX8_pass 7 = .ok (.istore 6, 2) := by decide +kernel
theorem dX8_pass_9 : decode cX8_pass 9 = .ok (.aload_n 1, 1) := by decide +kernel
theorem dX8_pass_10 : decode cX8_pass 10 = .ok (.getfield 7, 3) := by decide +kernel
theorem dX8_pass_13 : decode cX8_pass 13 = .ok (.getfield 19, 3) := by decide +kernel
theorem dX8_pass_16 : decode cX8_pass 16 = .ok (.istore 7, 2) := by decide +kernel
theorem dX8_pass_18 : decode cX8_pass 18 = .ok (.aload_n 0, 1) := by decide +kernel
theorem dX8_pass_19 : decode cX8_pass 19 = .ok (.iload_n 3, 1) := by decide +kernel
theorem dX8_pass_20 : decode cX8_pass 20 = .ok (.putfield 22, 3) := by decide +kernel
theorem dX8_pass_23 : decode cX8_pass 23 = .ok (.iconst 0, 1) := by decide +kernel
theorem dX8_pass_24 : decode cX8_pass 24 = .ok (.istore 8, 2) := by decide +kernel
theorem dX8_pass_26 : decode cX8_pass 26 = .ok (.iload 8, 2) := by decide +kernel
theorem dX8_pass_28 : decode cX8_pass 28 = .ok (.iload 5, 2) := by decide +kernel
theorem dX8_pass_30 : decode cX8_pass 30 = .ok (.if_icmp .ge 92, 3) := by decide +kernel
theorem dX8_pass_33 : decode cX8_pass 33 = .ok (.iload 6, 2) := by decide +kernel
theorem dX8_pass_35 : decode cX8_pass 35 = .ok (.ifCond .le 76, 3) := by decide +kernel
theorem dX8_pass_38 : decode cX8_pass 38 = .ok (.iload 7, 2) := by decide +kernel
theorem dX8_pass_40 : decode cX8_pass 40 = .ok (.ifCond .le 71, 3) := by decide +kernel
theorem dX8_pass_43 : decode cX8_pass 43 = .ok (.aload_n 0, 1) := by decide +kernel
theorem dX8_pass_44 : decode cX8_pass 44 = .ok (.iload 6, 2) := by decide +kernel
theorem dX8_pass_46 : decode cX8_pass 46 = .ok (.invokevirtual 27, 3) := by decide +kernel
theorem dX8_pass_49 : decode cX8_pass 49 = .ok (.istore 9, 2) := by decide +kernel
theorem dX8_pass_51 : decode cX8_pass 51 = .ok (.aload_n 0, 1) := by decide +kernel
theorem dX8_pass_52 : decode cX8_pass 52 = .ok (.iload 7, 2) := by decide +kernel
theorem dX8_pass_54 : decode cX8_pass 54 = .ok (.invokevirtual 27, 3) := by decide +kernel
theorem dX8_pass_57 : decode cX8_pass 57 = .ok (.istore 10, 2) := by decide +kernel
theorem dX8_pass_59 : decode cX8_pass 59 = .ok (.aload_n 0, 1) := by decide +kernel
theorem dX8_pass_60 : decode cX8_pass 60 = .ok (.bipush 20, 2) := by decide +kernel
theorem dX8_pass_62 : decode cX8_pass 62 = .ok (.invokevirtual 27, 3) := by decide +kernel
theorem dX8_pass_65 : decode cX8_pass 65 = .ok (.iconst 1, 1) := by decide +kernel
theorem dX8_pass_66 : decode cX8_pass 66 = .ok (.iadd, 1) := by decide +kernel
theorem dX8_pass_67 : decode cX8_pass 67 = .ok (.istore 11, 2) := by decide +kernel
theorem dX8_pass_69 : decode cX8_pass 69 = .ok (.aload_n 0, 1) := by decide +kernel
theorem dX8_pass_70 : decode cX8_pass 70 = .ok (.bipush 9, 2) := by decide +kernel
theorem dX8_pass_72 : decode cX8_pass 72 = .ok (.invokevirtual 27, 3) := by decide +kernel
theorem dX8_pass_75 : decode cX8_pass 75 = .ok (.iconst 1, 1) := by decide +kernel
theorem dX8_pass_76 : decode cX8_pass 76 = .ok (.iadd, 1) := by decide +kernel
theorem dX8_pass_77 : decode cX8_pass 77 = .ok (.istore 12, 2) := by decide +kernel
theorem dX8_pass_79 : decode cX8_pass 79 = .ok (.aload_n 1, 1) := by decide +kernel
theorem dX8_pass_80 : decode cX8_pass 80 = .ok (.aload_n 2, 1) := by decide +kernel
theorem dX8_pass_81 : decode cX8_pass 81 = .ok (.iload 9, 2) := by decide +kernel
theorem dX8_pass_83 : decode cX8_pass 83 = .ok (.iload 10, 2) := by decide +kernel
theorem dX8_pass_85 : decode cX8_pass 85 = .ok (.iload 11, 2) := by decide +kernel
theorem dX8_pass_87 : decode cX8_pass 87 = .ok (.iload 12, 2) := by decide +kernel
theorem dX8_pass_89 : decode cX8_pass 89 = .ok (.invokevirtual 31, 3) := by decide +kernel
theorem dX8_pass_92 : decode cX8_pass 92 = .ok (.pop, 1) := by decide +kernel
theorem dX8_pass_93 : decode cX8_pass 93 = .ok (.aload_n 0, 1) := by decide +kernel
theorem dX8_pass_94 : decode cX8_pass 94 = .ok (.bipush 16, 2) := by decide +kernel
theorem dX8_pass_96 : decode cX8_pass 96 = .ok (.invokevirtual 27, 3) := by decide +kernel
theorem dX8_pass_99 : decode cX8_pass 99 = .ok (.iload 4, 2) := by decide +kernel
theorem dX8_pass_101 : decode cX8_pass 101 = .ok (.if_icmp .ge 10, 3) := by decide +kernel
theorem dX8_pass_104 : decode cX8_pass 104 = .ok (.aload_n 1, 1) := by decide +kernel
theorem dX8_pass_105 : decode cX8_pass 105 = .ok (.aload_n 2, 1) := by decide +kernel
theorem dX8_pass_106 : decode cX8_pass 106 = .ok (.iconst 0, 1) := by decide +kernel
theorem dX8_pass_107 : decode cX8_pass 107 = .ok (.invokevirtual 35, 3) := by decide +kernel
theorem dX8_pass_110 : decode cX8_pass 110 = .ok (.pop, 1) := by decide +kernel
theorem dX8_pass_111 : decode cX8_pass 111 = .ok (.aload_n 1, 1) := by decide +kernel
theorem dX8_pass_112 : decode cX8_pass 112 = .ok (.aload_n 2, 1) := by decide +kernel
theorem dX8_pass_113 : decode cX8_pass 113 = .ok (.invokevirtual 39, 3) := by decide +kernel
theorem dX8_pass_116 : decode cX8_pass 116 = .ok (.iinc 8 1, 3) := by decide +kernel
theorem dX8_pass_119 : decode cX8_pass 119 = .ok (.goto (-93), 3) := by decide +kernel
theorem dX8_pass_122 : decode cX8_pass 122 = .ok (.return_, 1) := by decide +kernel
theorem dX8_draw_0 : decode cX8_draw 0 = .ok (.aload_n 0, 1) := by decide +kernel
theorem dX8_draw_1 : decode cX8_draw 1 = .ok (.aload_n 0, 1) := by decide +kernel
theorem dX8_draw_2 : decode cX8_draw 2 = .ok (.getfield 22, 3) := by decide +kernel
theorem dX8_draw_5 : decode cX8_draw 5 = .ok (.ldc 43, 2) := by decide +kernel
theorem dX8_draw_7 : decode cX8_draw 7 = .ok (.imul, 1) := by decide +kernel
theorem dX8_draw_8 : decode cX8_draw 8 = .ok (.sipush 12345, 3) := by decide +kernel
theorem dX8_draw_11 : decode cX8_draw 11 = .ok (.iadd, 1) := by decide +kernel
theorem dX8_draw_12 : decode cX8_draw 12 = .ok (.putfield 22, 3) := by decide +kernel
theorem dX8_draw_15 : decode cX8_draw 15 = .ok (.iload_n 1, 1) := by decide +kernel
theorem dX8_draw_16 : decode cX8_draw 16 = .ok (.ifCond .le 19, 3) := by decide +kernel
theorem dX8_draw_19 : decode cX8_draw 19 = .ok (.aload_n 0, 1) := by decide +kernel
theorem dX8_draw_20 : decode cX8_draw 20 = .ok (.getfield 22, 3) := by decide +kernel
theorem dX8_draw_23 : decode cX8_draw 23 = .ok (.bipush 16, 2) := by decide +kernel
theorem dX8_draw_25 : decode cX8_draw 25 = .ok (.iushr, 1) := by decide +kernel
theorem dX8_draw_26 : decode cX8_draw 26 = .ok (.sipush 32767, 3) := by decide +kernel
theorem dX8_draw_29 : decode cX8_draw 29 = .ok (.iand, 1) := by decide +kernel
theorem dX8_draw_30 : decode cX8_draw 30 = .ok (.iload_n 1, 1) := by decide +kernel
theorem dX8_draw_31 : decode cX8_draw 31 = .ok (.irem, 1) := by decide +kernel
theorem dX8_draw_32 : decode cX8_draw 32 = .ok (.goto 4, 3) := by decide +kernel
theorem dX8_draw_35 : decode cX8_draw 35 = .ok (.iconst 0, 1) := by decide +kernel
theorem dX8_draw_36 : decode cX8_draw 36 = .ok (.ireturn, 1) := by decide +kernel
