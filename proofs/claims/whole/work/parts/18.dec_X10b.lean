theorem dX10_clears_97 : decode cX10_clears 97 = .ok (.iload 4, 2) := by decide +kernel
theorem dX10_clears_99 : decode cX10_clears 99 = .ok (.ireturn, 1) := by decide +kernel
theorem dX10_comes_0 : decode cX10_comes 0 = .ok (.aload_n 0, 1) := by decide +kernel
theorem dX10_comes_1 : decode cX10_comes 1 = .ok (.iload_n 1, 1) := by decide +kernel
theorem dX10_comes_2 : decode cX10_comes 2 = .ok (.iconst 0, 1) := by decide +kernel
theorem dX10_comes_3 : decode cX10_comes 3 = .ok (.sipush 999, 3) := by decide +kernel
theorem dX10_comes_6 : decode cX10_comes 6 = .ok (.invokevirtual 266, 3) := by decide +kernel
theorem dX10_comes_9 : decode cX10_comes 9 = .ok (.aload_n 0, 1) := by decide +kernel
theorem dX10_comes_10 : decode cX10_comes 10 = .ok (.invokevirtual 299, 3) := by decide +kernel
theorem dX10_comes_13 : decode cX10_comes 13 = .ok (.iconst 0, 1) := by decide +kernel
theorem dX10_comes_14 : decode cX10_comes 14 = .ok (.istore_n 2, 1) := by decide +kernel
theorem dX10_comes_15 : decode cX10_comes 15 = .ok (.iconst 0, 1) := by decide +kernel
theorem dX10_comes_16 : decode cX10_comes 16 = .ok (.istore_n 3, 1) := by decide +kernel
theorem dX10_comes_17 : decode cX10_comes 17 = .ok (.iload_n 3, 1) := by decide +kernel
theorem dX10_comes_18 : decode cX10_comes 18 = .ok (.iconst 1, 1) := by decide +kernel
theorem dX10_comes_19 : decode cX10_comes 19 = .ok (.aload_n 0, 1) := by decide +kernel
theorem dX10_comes_20 : decode cX10_comes 20 = .ok (.getfield 65, 3) := by decide +kernel
theorem dX10_comes_23 : decode cX10_comes 23 = .ok (.getfield 157, 3) := by decide +kernel
theorem dX10_comes_26 : decode cX10_comes 26 = .ok (.invokevirtual 192, 3) := by decide +kernel
theorem dX10_comes_29 : decode cX10_comes 29 = .ok (.ishl, 1) := by decide +kernel
theorem dX10_comes_30 : decode cX10_comes 30 = .ok (.if_icmp .ge 21, 3) := by decide +kernel
theorem dX10_comes_33 : decode cX10_comes 33 = .ok (.aload_n 0, 1) := by decide +kernel
theorem dX10_comes_34 : decode cX10_comes 34 = .ok (.iload_n 3, 1) := by decide +kernel
theorem dX10_comes_35 : decode cX10_comes 35 = .ok (.invokevirtual 302, 3) := by decide +kernel
theorem dX10_comes_38 : decode cX10_comes 38 = .ok (.iload_n 1, 1) := by decide +kernel
theorem dX10_comes_39 : decode cX10_comes 39 = .ok (.if_icmp .ne 6, 3) := by decide +kernel
theorem dX10_comes_42 : decode cX10_comes 42 = .ok (.iinc 2 1, 3) := by decide +kernel
theorem dX10_comes_45 : decode cX10_comes 45 = .ok (.iinc 3 1, 3) := by decide +kernel
theorem dX10_comes_48 : decode cX10_comes 48 = .ok (.goto (-31), 3) := by decide +kernel
theorem dX10_comes_51 : decode cX10_comes 51 = .ok (.iload_n 2, 1) := by decide +kernel
theorem dX10_comes_52 : decode cX10_comes 52 = .ok (.ireturn, 1) := by decide +kernel
theorem dX10_serves_0 : decode cX10_serves 0 = .ok (.aload_n 0, 1) := by decide +kernel
theorem dX10_serves_1 : decode cX10_serves 1 = .ok (.iload_n 1, 1) := by decide +kernel
theorem dX10_serves_2 : decode cX10_serves 2 = .ok (.iconst 0, 1) := by decide +kernel
theorem dX10_serves_3 : decode cX10_serves 3 = .ok (.iconst 1, 1) := by decide +kernel
theorem dX10_serves_4 : decode cX10_serves 4 = .ok (.invokevirtual 266, 3) := by decide +kernel
theorem dX10_serves_7 : decode cX10_serves 7 = .ok (.aload_n 0, 1) := by decide +kernel
theorem dX10_serves_8 : decode cX10_serves 8 = .ok (.getfield 83, 3) := by decide +kernel
theorem dX10_serves_11 : decode cX10_serves 11 = .ok (.aload_n 0, 1) := by decide +kernel
theorem dX10_serves_12 : decode cX10_serves 12 = .ok (.getfield 39, 3) := by decide +kernel
theorem dX10_serves_15 : decode cX10_serves 15 = .ok (.aload_n 0, 1) := by decide +kernel
theorem dX10_serves_16 : decode cX10_serves 16 = .ok (.getfield 58, 3) := by decide +kernel
theorem dX10_serves_19 : decode cX10_serves 19 = .ok (.aload_n 0, 1) := by decide +kernel
theorem dX10_serves_20 : decode cX10_serves 20 = .ok (.getfield 65, 3) := by decide +kernel
theorem dX10_serves_23 : decode cX10_serves 23 = .ok (.getfield 157, 3) := by decide +kernel
theorem dX10_serves_26 : decode cX10_serves 26 = .ok (.invokevirtual 309, 3) := by decide +kernel
theorem dX10_serves_29 : decode cX10_serves 29 = .ok (.iload_n 1, 1) := by decide +kernel
theorem dX10_serves_30 : decode cX10_serves 30 = .ok (.ifCond .ne 13, 3) := by decide +kernel
theorem dX10_serves_33 : decode cX10_serves 33 = .ok (.aload_n 0, 1) := by decide +kernel
theorem dX10_serves_34 : decode cX10_serves 34 = .ok (.getfield 83, 3) := by decide +kernel
theorem dX10_serves_37 : decode cX10_serves 37 = .ok (.invokevirtual 312, 3) := by decide +kernel
theorem dX10_serves_40 : decode cX10_serves 40 = .ok (.goto 10, 3) := by decide +kernel
theorem dX10_serves_43 : decode cX10_serves 43 = .ok (.aload_n 0, 1) := by decide +kernel
theorem dX10_serves_44 : decode cX10_serves 44 = .ok (.getfield 83, 3) := by decide +kernel
theorem dX10_serves_47 : decode cX10_serves 47 = .ok (.invokevirtual 315, 3) := by decide +kernel
theorem dX10_serves_50 : decode cX10_serves 50 = .ok (.ireturn, 1) := by decide +kernel
theorem dX10_served_0 : decode cX10_served 0 = .ok (.aload_n 0, 1) := by decide +kernel
theorem dX10_served_1 : decode cX10_served 1 = .ok (.iload_n 1, 1) := by decide +kernel
theorem dX10_served_2 : decode cX10_served 2 = .ok (.ifCond .lt 18, 3) := by decide +kernel
theorem dX10_served_5 : decode cX10_served 5 = .ok (.iload_n 1, 1) := by decide +kernel
theorem dX10_served_6 : decode cX10_served 6 = .ok (.aload_n 0, 1) := by decide +kernel
theorem dX10_served_7 : decode cX10_served 7 = .ok (.getfield 39, 3) := by decide +kernel
theorem dX10_served_10 : decode cX10_served 10 = .ok (.getfield 182, 3) := by decide +kernel
theorem dX10_served_13 : decode cX10_served 13 = .ok (.if_icmp .ge 7, 3) := by decide +kernel
theorem dX10_served_16 : decode cX10_served 16 = .ok (.iconst 1, 1) := by decide +kernel
theorem dX10_served_17 : decode cX10_served 17 = .ok (.goto 4, 3) := by decide +kernel
theorem dX10_served_20 : decode cX10_served 20 = .ok (.iconst 0, 1) := by decide +kernel
theorem dX10_served_21 : decode cX10_served 21 = .ok (.invokevirtual 263, 3) := by decide +kernel
theorem dX10_served_24 : decode cX10_served 24 = .ok (.aload_n 0, 1) := by decide +kernel
theorem dX10_served_25 : decode cX10_served 25 = .ok (.getfield 83, 3) := by decide +kernel
theorem dX10_served_28 : decode cX10_served 28 = .ok (.aload_n 0, 1) := by decide +kernel
theorem dX10_served_29 : decode cX10_served 29 = .ok (.getfield 39, 3) := by decide +kernel
theorem dX10_served_32 : decode cX10_served 32 = .ok (.aload_n 0, 1) := by decide +kernel
theorem dX10_served_33 : decode cX10_served 33 = .ok (.getfield 58, 3) := by decide +kernel
theorem dX10_served_36 : decode cX10_served 36 = .ok (.aload_n 0, 1) := by decide +kernel
theorem dX10_served_37 : decode cX10_served 37 = .ok (.getfield 65, 3) := by decide +kernel
theorem dX10_served_40 : decode cX10_served 40 = .ok (.getfield 157, 3) := by decide +kernel
theorem dX10_served_43 : decode cX10_served 43 = .ok (.invokevirtual 309, 3) := by decide +kernel
theorem dX10_served_46 : decode cX10_served 46 = .ok (.aload_n 0, 1) := by decide +kernel
theorem dX10_served_47 : decode cX10_served 47 = .ok (.getfield 83, 3) := by decide +kernel
theorem dX10_served_50 : decode cX10_served 50 = .ok (.iload_n 1, 1) := by decide +kernel
theorem dX10_served_51 : decode cX10_served 51 = .ok (.invokevirtual 318, 3) := by decide +kernel
theorem dX10_served_54 : decode cX10_served 54 = .ok (.ireturn, 1) := by decide +kernel
theorem dX10_call_0 : decode cX10_call 0 = .ok (.aload_n 0, 1) := by decide +kernel
theorem dX10_call_1 : decode cX10_call 1 = .ok (.iload_n 1, 1) := by decide +kernel
theorem dX10_call_2 : decode cX10_call 2 = .ok (.iconst 0, 1) := by decide +kernel
theorem dX10_call_3 : decode cX10_call 3 = .ok (.iconst 5, 1) := by decide +kernel
theorem dX10_call_4 : decode cX10_call 4 = .ok (.invokevirtual 266, 3) := by decide +kernel
theorem dX10_call_7 : decode cX10_call 7 = .ok (.aload_n 0, 1) := by decide +kernel
theorem dX10_call_8 : decode cX10_call 8 = .ok (.getfield 83, 3) := by decide +kernel
theorem dX10_call_11 : decode cX10_call 11 = .ok (.aload_n 0, 1) := by decide +kernel
theorem dX10_call_12 : decode cX10_call 12 = .ok (.getfield 39, 3) := by decide +kernel
theorem dX10_call_15 : decode cX10_call 15 = .ok (.aload_n 0, 1) := by decide +kernel
theorem dX10_call_16 : decode cX10_call 16 = .ok (.getfield 58, 3) := by decide +kernel
theorem dX10_call_19 : decode cX10_call 19 = .ok (.aload_n 0, 1) := by decide +kernel
theorem dX10_call_20 : decode cX10_call 20 = .ok (.getfield 65, 3) := by decide +kernel
theorem dX10_call_23 : decode cX10_call 23 = .ok (.getfield 157, 3) := by decide +kernel
theorem dX10_call_26 : decode cX10_call 26 = .ok (.invokevirtual 309, 3) := by decide +kernel
theorem dX10_call_29 : decode cX10_call 29 = .ok (.aload_n 0, 1) := by decide +kernel
theorem dX10_call_30 : decode cX10_call 30 = .ok (.getfield 83, 3) := by decide +kernel
theorem dX10_call_33 : decode cX10_call 33 = .ok (.aload_n 0, 1) := by decide +kernel
theorem dX10_call_34 : decode cX10_call 34 = .ok (.getfield 39, 3) := by decide +kernel
theorem dX10_call_37 : decode cX10_call 37 = .ok (.iload_n 1, 1) := by decide +kernel
theorem dX10_call_38 : decode cX10_call 38 = .ok (.invokevirtual 321, 3) := by decide +kernel
theorem dX10_call_41 : decode cX10_call 41 = .ok (.ireturn, 1) := by decide +kernel
theorem dX10_run_0 : decode cX10_run 0 = .ok (.aload_n 0, 1) := by decide +kernel
theorem dX10_run_1 : decode cX10_run 1 = .ok (.iload_n 1, 1) := by decide +kernel
theorem dX10_run_2 : decode cX10_run 2 = .ok (.invokevirtual 222, 3) := by decide +kernel
theorem dX10_run_5 : decode cX10_run 5 = .ok (.aload_n 0, 1) := by decide +kernel
theorem dX10_run_6 : decode cX10_run 6 = .ok (.iload_n 2, 1) := by decide +kernel
theorem dX10_run_7 : decode cX10_run 7 = .ok (.invokevirtual 245, 3) := by decide +kernel
theorem dX10_run_10 : decode cX10_run 10 = .ok (.aload_n 0, 1) := by decide +kernel
theorem dX10_run_11 : decode cX10_run 11 = .ok (.iload_n 2, 1) := by decide +kernel
theorem dX10_run_12 : decode cX10_run 12 = .ok (.aload_n 0, 1) := by decide +kernel
theorem dX10_run_13 : decode cX10_run 13 = .ok (.getfield 65, 3) := by decide +kernel
theorem dX10_run_16 : decode cX10_run 16 = .ok (.getfield 157, 3) := by decide +kernel
theorem dX10_run_19 : decode cX10_run 19 = .ok (.iload_n 1, 1) := by decide +kernel
theorem dX10_run_20 : decode cX10_run 20 = .ok (.invokevirtual 229, 3) := by decide +kernel
theorem dX10_run_23 : decode cX10_run 23 = .ok (.iconst 0, 1) := by decide +kernel
theorem dX10_run_24 : decode cX10_run 24 = .ok (.aload_n 0, 1) := by decide +kernel
theorem dX10_run_25 : decode cX10_run 25 = .ok (.getfield 19, 3) := by decide +kernel
theorem dX10_run_28 : decode cX10_run 28 = .ok (.getfield 173, 3) := by decide +kernel
theorem dX10_run_31 : decode cX10_run 31 = .ok (.invokevirtual 325, 3) := by decide +kernel
theorem dX10_run_34 : decode cX10_run 34 = .ok (.ireturn, 1) := by decide +kernel
theorem dX10_all_0 : decode cX10_all 0 = .ok (.aload_n 0, 1) := by decide +kernel
theorem dX10_all_1 : decode cX10_all 1 = .ok (.iload_n 1, 1) := by decide +kernel
theorem dX10_all_2 : decode cX10_all 2 = .ok (.iconst 0, 1) := by decide +kernel
theorem dX10_all_3 : decode cX10_all 3 = .ok (.bipush 12, 2) := by decide +kernel
theorem dX10_all_5 : decode cX10_all 5 = .ok (.invokevirtual 266, 3) := by decide +kernel
theorem dX10_all_8 : decode cX10_all 8 = .ok (.aload_n 0, 1) := by decide +kernel
theorem dX10_all_9 : decode cX10_all 9 = .ok (.iload_n 2, 1) := by decide +kernel
theorem dX10_all_10 : decode cX10_all 10 = .ok (.iconst 0, 1) := by decide +kernel
theorem dX10_all_11 : decode cX10_all 11 = .ok (.bipush 13, 2) := by decide +kernel
theorem dX10_all_13 : decode cX10_all 13 = .ok (.invokevirtual 266, 3) := by decide +kernel
theorem dX10_all_16 : decode cX10_all 16 = .ok (.aload_n 0, 1) := by decide +kernel
theorem dX10_all_17 : decode cX10_all 17 = .ok (.iload_n 3, 1) := by decide +kernel
theorem dX10_all_18 : decode cX10_all 18 = .ok (.iconst 0, 1) := by decide +kernel
theorem dX10_all_19 : decode cX10_all 19 = .ok (.bipush 16, 2) := by decide +kernel
theorem dX10_all_21 : decode cX10_all 21 = .ok (.invokevirtual 266, 3) := by decide +kernel
theorem dX10_all_24 : decode cX10_all 24 = .ok (.aload_n 0, 1) := by decide +kernel
theorem dX10_all_25 : decode cX10_all 25 = .ok (.iload 4, 2) := by decide +kernel
theorem dX10_all_27 : decode cX10_all 27 = .ok (.iconst 0, 1) := by decide +kernel
theorem dX10_all_28 : decode cX10_all 28 = .ok (.iconst 1, 1) := by decide +kernel
theorem dX10_all_29 : decode cX10_all 29 = .ok (.invokevirtual 266, 3) := by decide +kernel
theorem dX10_all_32 : decode cX10_all 32 = .ok (.lconst 0, 1) := by decide +kernel
theorem dX10_all_33 : decode cX10_all 33 = .ok (.lstore 5, 2) := by decide +kernel
theorem dX10_all_35 : decode cX10_all 35 = .ok (.iload_n 2, 1) := by decide +kernel
theorem dX10_all_36 : decode cX10_all 36 = .ok (.istore 7, 2) := by decide +kernel
theorem dX10_all_38 : decode cX10_all 38 = .ok (.iload 7, 2) := by decide +kernel
theorem dX10_all_40 : decode cX10_all 40 = .ok (.iload_n 1, 1) := by decide +kernel
theorem dX10_all_41 : decode cX10_all 41 = .ok (.if_icmp .gt 39, 3) := by decide +kernel
theorem dX10_all_44 : decode cX10_all 44 = .ok (.lload 5, 2) := by decide +kernel
theorem dX10_all_46 : decode cX10_all 46 = .ok (.iload_n 1, 1) := by decide +kernel
theorem dX10_all_47 : decode cX10_all 47 = .ok (.iload 7, 2) := by decide +kernel
theorem dX10_all_49 : decode cX10_all 49 = .ok (.invokestatic 329, 3) := by decide +kernel
theorem dX10_all_52 : decode cX10_all 52 = .ok (.iload_n 3, 1) := by decide +kernel
theorem dX10_all_53 : decode cX10_all 53 = .ok (.iload 7, 2) := by decide +kernel
theorem dX10_all_55 : decode cX10_all 55 = .ok (.invokestatic 333, 3) := by decide +kernel
theorem dX10_all_58 : decode cX10_all 58 = .ok (.lmul, 1) := by decide +kernel
theorem dX10_all_59 : decode cX10_all 59 = .ok (.bipush 16, 2) := by decide +kernel
theorem dX10_all_61 : decode cX10_all 61 = .ok (.iload_n 3, 1) := by decide +kernel
theorem dX10_all_62 : decode cX10_all 62 = .ok (.isub, 1) := by decide +kernel
theorem dX10_all_63 : decode cX10_all 63 = .ok (.iload_n 1, 1) := by decide +kernel
theorem dX10_all_64 : decode cX10_all 64 = .ok (.iload 7, 2) := by decide +kernel
theorem dX10_all_66 : decode cX10_all 66 = .ok (.isub, 1) := by decide +kernel
theorem dX10_all_67 : decode cX10_all 67 = .ok (.invokestatic 333, 3) := by decide +kernel
theorem dX10_all_70 : decode cX10_all 70 = .ok (.lmul, 1) := by decide +kernel
theorem dX10_all_71 : decode cX10_all 71 = .ok (.ladd, 1) := by decide +kernel
theorem dX10_all_72 : decode cX10_all 72 = .ok (.lstore 5, 2) := by decide +kernel
theorem dX10_all_74 : decode cX10_all 74 = .ok (.iinc 7 1, 3) := by decide +kernel
theorem dX10_all_77 : decode cX10_all 77 = .ok (.goto (-39), 3) := by decide +kernel
theorem dX10_all_80 : decode cX10_all 80 = .ok (.bipush 16, 2) := by decide +kernel
theorem dX10_all_82 : decode cX10_all 82 = .ok (.iload_n 1, 1) := by decide +kernel
theorem dX10_all_83 : decode cX10_all 83 = .ok (.invokestatic 333, 3) := by decide +kernel
theorem dX10_all_86 : decode cX10_all 86 = .ok (.lstore 7, 2) := by decide +kernel
theorem dX10_all_88 : decode cX10_all 88 = .ok (.iconst 0, 1) := by decide +kernel
theorem dX10_all_89 : decode cX10_all 89 = .ok (.istore 9, 2) := by decide +kernel
theorem dX10_all_91 : decode cX10_all 91 = .ok (.iload 9, 2) := by decide +kernel
theorem dX10_all_93 : decode cX10_all 93 = .ok (.bipush 48, 2) := by decide +kernel
theorem dX10_all_95 : decode cX10_all 95 = .ok (.if_icmp .ge 33, 3) := by decide +kernel
theorem dX10_all_98 : decode cX10_all 98 = .ok (.lload 5, 2) := by decide +kernel
theorem dX10_all_100 : decode cX10_all 100 = .ok (.lload 7, 2) := by decide +kernel
theorem dX10_all_102 : decode cX10_all 102 = .ok (.lor, 1) := by decide +kernel
theorem dX10_all_103 : decode cX10_all 103 = .ok (.lconst 1, 1) := by decide +kernel
theorem dX10_all_104 : decode cX10_all 104 = .ok (.land, 1) := by decide +kernel
theorem dX10_all_105 : decode cX10_all 105 = .ok (.lconst 0, 1) := by decide +kernel
theorem dX10_all_106 : decode cX10_all 106 = .ok (.lcmp, 1) := by decide +kernel
theorem dX10_all_107 : decode cX10_all 107 = .ok (.ifCond .ne 21, 3) := by decide +kernel
theorem dX10_all_110 : decode cX10_all 110 = .ok (.lload 5, 2) := by decide +kernel
theorem dX10_all_112 : decode cX10_all 112 = .ok (.iconst 1, 1) := by decide +kernel
theorem dX10_all_113 : decode cX10_all 113 = .ok (.lshr, 1) := by decide +kernel
theorem dX10_all_114 : decode cX10_all 114 = .ok (.lstore 5, 2) := by decide +kernel
theorem dX10_all_116 : decode cX10_all 116 = .ok (.lload 7, 2) := by decide +kernel
theorem dX10_all_118 : decode cX10_all 118 = .ok (.iconst 1, 1) := by decide +kernel
theorem dX10_all_119 : decode cX10_all 119 = .ok (.lshr, 1) := by decide +kernel
theorem dX10_all_120 : decode cX10_all 120 = .ok (.lstore 7, 2) := by decide +kernel
theorem dX10_all_122 : decode cX10_all 122 = .ok (.iinc 9 1, 3) := by decide +kernel
theorem dX10_all_125 : decode cX10_all 125 = .ok (.goto (-34), 3) := by decide +kernel
theorem dX10_all_128 : decode cX10_all 128 = .ok (.iload 4, 2) := by decide +kernel
theorem dX10_all_130 : decode cX10_all 130 = .ok (.ifCond .ne 8, 3) := by decide +kernel
theorem dX10_all_133 : decode cX10_all 133 = .ok (.lload 5, 2) := by decide +kernel
theorem dX10_all_135 : decode cX10_all 135 = .ok (.goto 5, 3) := by decide +kernel
theorem dX10_all_138 : decode cX10_all 138 = .ok (.lload 7, 2) := by decide +kernel
theorem dX10_all_140 : decode cX10_all 140 = .ok (.lreturn, 1) := by decide +kernel
theorem dX10_saint_0 : decode cX10_saint 0 = .ok (.aload_n 0, 1) := by decide +kernel
theorem dX10_saint_1 : decode cX10_saint 1 = .ok (.iload_n 1, 1) := by decide +kernel
theorem dX10_saint_2 : decode cX10_saint 2 = .ok (.iconst 0, 1) := by decide +kernel
theorem dX10_saint_3 : decode cX10_saint 3 = .ok (.bipush 99, 2) := by decide +kernel
theorem dX10_saint_5 : decode cX10_saint 5 = .ok (.invokevirtual 266, 3) := by decide +kernel
theorem dX10_saint_8 : decode cX10_saint 8 = .ok (.aload_n 0, 1) := by decide +kernel
theorem dX10_saint_9 : decode cX10_saint 9 = .ok (.iload_n 2, 1) := by decide +kernel
theorem dX10_saint_10 : decode cX10_saint 10 = .ok (.iconst 0, 1) := by decide +kernel
theorem dX10_saint_11 : decode cX10_saint 11 = .ok (.bipush 99, 2) := by decide +kernel
theorem dX10_saint_13 : decode cX10_saint 13 = .ok (.invokevirtual 266, 3) := by decide +kernel
theorem dX10_saint_16 : decode cX10_saint 16 = .ok (.aload_n 0, 1) := by decide +kernel
theorem dX10_saint_17 : decode cX10_saint 17 = .ok (.iload_n 3, 1) := by decide +kernel
theorem dX10_saint_18 : decode cX10_saint 18 = .ok (.iconst 0, 1) := by decide +kernel
theorem dX10_saint_19 : decode cX10_saint 19 = .ok (.iconst 2, 1) := by decide +kernel
theorem dX10_saint_20 : decode cX10_saint 20 = .ok (.invokevirtual 266, 3) := by decide +kernel
theorem dX10_saint_23 : decode cX10_saint 23 = .ok (.iconst 0, 1) := by decide +kernel
theorem dX10_saint_24 : decode cX10_saint 24 = .ok (.istore 4, 2) := by decide +kernel
theorem dX10_saint_26 : decode cX10_saint 26 = .ok (.iconst (-1), 1) := by decide +kernel
theorem dX10_saint_27 : decode cX10_saint 27 = .ok (.istore 5, 2) := by decide +kernel
theorem dX10_saint_29 : decode cX10_saint 29 = .ok (.iconst 0, 1) := by decide +kernel
theorem dX10_saint_30 : decode cX10_saint 30 = .ok (.istore 6, 2) := by decide +kernel
theorem dX10_saint_32 : decode cX10_saint 32 = .ok (.iconst 0, 1) := by decide +kernel
theorem dX10_saint_33 : decode cX10_saint 33 = .ok (.istore 7, 2) := by decide +kernel
theorem dX10_saint_35 : decode cX10_saint 35 = .ok (.iload 7, 2) := by decide +kernel
theorem dX10_saint_37 : decode cX10_saint 37 = .ok (.iconst 1, 1) := by decide +kernel
theorem dX10_saint_38 : decode cX10_saint 38 = .ok (.if_icmp .gt 110, 3) := by decide +kernel
theorem dX10_saint_41 : decode cX10_saint 41 = .ok (.iconst 0, 1) := by decide +kernel
theorem dX10_saint_42 : decode cX10_saint 42 = .ok (.istore 8, 2) := by decide +kernel
theorem dX10_saint_44 : decode cX10_saint 44 = .ok (.iload 8, 2) := by decide +kernel
theorem dX10_saint_46 : decode cX10_saint 46 = .ok (.iconst 1, 1) := by decide +kernel
theorem dX10_saint_47 : decode cX10_saint 47 = .ok (.if_icmp .gt 95, 3) := by decide +kernel
theorem dX10_saint_50 : decode cX10_saint 50 = .ok (.iload_n 1, 1) := by decide +kernel
theorem dX10_saint_51 : decode cX10_saint 51 = .ok (.iload_n 2, 1) := by decide +kernel
theorem dX10_saint_52 : decode cX10_saint 52 = .ok (.iload 7, 2) := by decide +kernel
theorem dX10_saint_54 : decode cX10_saint 54 = .ok (.iload 8, 2) := by decide +kernel
theorem dX10_saint_56 : decode cX10_saint 56 = .ok (.invokestatic 336, 3) := by decide +kernel
theorem dX10_saint_59 : decode cX10_saint 59 = .ok (.iload_n 1, 1) := by decide +kernel
theorem dX10_saint_60 : decode cX10_saint 60 = .ok (.iload_n 2, 1) := by decide +kernel
theorem dX10_saint_61 : decode cX10_saint 61 = .ok (.iconst 1, 1) := by decide +kernel
theorem dX10_saint_62 : decode cX10_saint 62 = .ok (.iload 7, 2) := by decide +kernel
theorem dX10_saint_64 : decode cX10_saint 64 = .ok (.isub, 1) := by decide +kernel
theorem dX10_saint_65 : decode cX10_saint 65 = .ok (.iload 8, 2) := by decide +kernel
theorem dX10_saint_67 : decode cX10_saint 67 = .ok (.invokestatic 336, 3) := by decide +kernel
theorem dX10_saint_70 : decode cX10_saint 70 = .ok (.if_icmp .lt 66, 3) := by decide +kernel
theorem dX10_saint_73 : decode cX10_saint 73 = .ok (.iload_n 1, 1) := by decide +kernel
theorem dX10_saint_74 : decode cX10_saint 74 = .ok (.iload_n 2, 1) := by decide +kernel
theorem dX10_saint_75 : decode cX10_saint 75 = .ok (.iload 8, 2) := by decide +kernel
theorem dX10_saint_77 : decode cX10_saint 77 = .ok (.iload 7, 2) := by decide +kernel
theorem dX10_saint_79 : decode cX10_saint 79 = .ok (.invokestatic 336, 3) := by decide +kernel
theorem dX10_saint_82 : decode cX10_saint 82 = .ok (.iload_n 1, 1) := by decide +kernel
theorem dX10_saint_83 : decode cX10_saint 83 = .ok (.iload_n 2, 1) := by decide +kernel
theorem dX10_saint_84 : decode cX10_saint 84 = .ok (.iconst 1, 1) := by decide +kernel
theorem dX10_saint_85 : decode cX10_saint 85 = .ok (.iload 8, 2) := by decide +kernel
theorem dX10_saint_87 : decode cX10_saint 87 = .ok (.isub, 1) := by decide +kernel
theorem dX10_saint_88 : decode cX10_saint 88 = .ok (.iload 7, 2) := by decide +kernel
theorem dX10_saint_90 : decode cX10_saint 90 = .ok (.invokestatic 336, 3) := by decide +kernel
theorem dX10_saint_93 : decode cX10_saint 93 = .ok (.if_icmp .lt 43, 3) := by decide +kernel
theorem dX10_saint_96 : decode cX10_saint 96 = .ok (.iinc 4 1, 3) := by decide +kernel
theorem dX10_saint_99 : decode cX10_saint 99 = .ok (.iload 5, 2) := by decide +kernel
theorem dX10_saint_101 : decode cX10_saint 101 = .ok (.iconst (-1), 1) := by decide +kernel
theorem dX10_saint_102 : decode cX10_saint 102 = .ok (.if_icmp .ne 34, 3) := by decide +kernel
theorem dX10_saint_105 : decode cX10_saint 105 = .ok (.bipush 10, 2) := by decide +kernel
theorem dX10_saint_107 : decode cX10_saint 107 = .ok (.iload 7, 2) := by decide +kernel
theorem dX10_saint_109 : decode cX10_saint 109 = .ok (.imul, 1) := by decide +kernel
theorem dX10_saint_110 : decode cX10_saint 110 = .ok (.iload 8, 2) := by decide +kernel
theorem dX10_saint_112 : decode cX10_saint 112 = .ok (.iadd, 1) := by decide +kernel
theorem dX10_saint_113 : decode cX10_saint 113 = .ok (.istore 5, 2) := by decide +kernel
theorem dX10_saint_115 : decode cX10_saint 115 = .ok (.iload_n 1, 1) := by decide +kernel
theorem dX10_saint_116 : decode cX10_saint 116 = .ok (.iload_n 2, 1) := by decide +kernel
theorem dX10_saint_117 : decode cX10_saint 117 = .ok (.iload 7, 2) := by decide +kernel
theorem dX10_saint_119 : decode cX10_saint 119 = .ok (.iload 8, 2) := by decide +kernel
theorem dX10_saint_121 : decode cX10_saint 121 = .ok (.invokestatic 336, 3) := by decide +kernel
theorem dX10_saint_124 : decode cX10_saint 124 = .ok (.iload_n 1, 1) := by decide +kernel
theorem dX10_saint_125 : decode cX10_saint 125 = .ok (.iload_n 2, 1) := by decide +kernel
theorem dX10_saint_126 : decode cX10_saint 126 = .ok (.iload 8, 2) := by decide +kernel
theorem dX10_saint_128 : decode cX10_saint 128 = .ok (.iload 7, 2) := by decide +kernel
theorem dX10_saint_130 : decode cX10_saint 130 = .ok (.invokestatic 336, 3) := by decide +kernel
theorem dX10_saint_133 : decode cX10_saint 133 = .ok (.iadd, 1) := by decide +kernel
theorem dX10_saint_134 : decode cX10_saint 134 = .ok (.istore 6, 2) := by decide +kernel
theorem dX10_saint_136 : decode cX10_saint 136 = .ok (.iinc 8 1, 3) := by decide +kernel
theorem dX10_saint_139 : decode cX10_saint 139 = .ok (.goto (-95), 3) := by decide +kernel
theorem dX10_saint_142 : decode cX10_saint 142 = .ok (.iinc 7 1, 3) := by decide +kernel
theorem dX10_saint_145 : decode cX10_saint 145 = .ok (.goto (-110), 3) := by decide +kernel
theorem dX10_saint_148 : decode cX10_saint 148 = .ok (.iload_n 3, 1) := by decide +kernel
theorem dX10_saint_149 : decode cX10_saint 149 = .ok (.ifCond .ne 6, 3) := by decide +kernel
theorem dX10_saint_152 : decode cX10_saint 152 = .ok (.iload 4, 2) := by decide +kernel
theorem dX10_saint_154 : decode cX10_saint 154 = .ok (.ireturn, 1) := by decide +kernel
theorem dX10_saint_155 : decode cX10_saint 155 = .ok (.iload_n 3, 1) := by decide +kernel
theorem dX10_saint_156 : decode cX10_saint 156 = .ok (.iconst 1, 1) := by decide +kernel
theorem dX10_saint_157 : decode cX10_saint 157 = .ok (.if_icmp .ne 8, 3) := by decide +kernel
theorem dX10_saint_160 : decode cX10_saint 160 = .ok (.iload 5, 2) := by decide +kernel
theorem dX10_saint_162 : decode cX10_saint 162 = .ok (.goto 5, 3) := by decide +kernel
theorem dX10_saint_165 : decode cX10_saint 165 = .ok (.iload 6, 2) := by decide +kernel
theorem dX10_saint_167 : decode cX10_saint 167 = .ok (.ireturn, 1) := by decide +kernel
theorem dX10_candles_0 : decode cX10_candles 0 = .ok (.aload_n 0, 1) := by decide +kernel
theorem dX10_candles_1 : decode cX10_candles 1 = .ok (.iload_n 1, 1) := by decide +kernel
theorem dX10_candles_2 : decode cX10_candles 2 = .ok (.invokevirtual 245, 3) := by decide +kernel
theorem dX10_candles_5 : decode cX10_candles 5 = .ok (.aload_n 0, 1) := by decide +kernel
theorem dX10_candles_6 : decode cX10_candles 6 = .ok (.iload_n 2, 1) := by decide +kernel
theorem dX10_candles_7 : decode cX10_candles 7 = .ok (.iconst 1, 1) := by decide +kernel
theorem dX10_candles_8 : decode cX10_candles 8 = .ok (.aload_n 0, 1) := by decide +kernel
theorem dX10_candles_9 : decode cX10_candles 9 = .ok (.getfield 19, 3) := by decide +kernel
theorem dX10_candles_12 : decode cX10_candles 12 = .ok (.getfield 173, 3) := by decide +kernel
theorem dX10_candles_15 : decode cX10_candles 15 = .ok (.ishl, 1) := by decide +kernel
theorem dX10_candles_16 : decode cX10_candles 16 = .ok (.ineg, 1) := by decide +kernel
theorem dX10_candles_17 : decode cX10_candles 17 = .ok (.iand, 1) := by decide +kernel
theorem dX10_candles_18 : decode cX10_candles 18 = .ok (.ifCond .ne 7, 3) := by decide +kernel
theorem dX10_candles_21 : decode cX10_candles 21 = .ok (.iconst 1, 1) := by decide +kernel
theorem dX10_candles_22 : decode cX10_candles 22 = .ok (.goto 4, 3) := by decide +kernel
theorem dX10_candles_25 : decode cX10_candles 25 = .ok (.iconst 0, 1) := by decide +kernel
theorem dX10_candles_26 : decode cX10_candles 26 = .ok (.invokevirtual 218, 3) := by decide +kernel
theorem dX10_candles_29 : decode cX10_candles 29 = .ok (.aload_n 0, 1) := by decide +kernel
theorem dX10_candles_30 : decode cX10_candles 30 = .ok (.iload_n 3, 1) := by decide +kernel
theorem dX10_candles_31 : decode cX10_candles 31 = .ok (.iconst 0, 1) := by decide +kernel
theorem dX10_candles_32 : decode cX10_candles 32 = .ok (.sipush 999, 3) := by decide +kernel
theorem dX10_candles_35 : decode cX10_candles 35 = .ok (.invokevirtual 266, 3) := by decide +kernel
theorem dX10_candles_38 : decode cX10_candles 38 = .ok (.iload_n 2, 1) := by decide +kernel
theorem dX10_candles_39 : decode cX10_candles 39 = .ok (.iload_n 1, 1) := by decide +kernel
theorem dX10_candles_40 : decode cX10_candles 40 = .ok (.ishr, 1) := by decide +kernel
theorem dX10_candles_41 : decode cX10_candles 41 = .ok (.iconst 1, 1) := by decide +kernel
theorem dX10_candles_42 : decode cX10_candles 42 = .ok (.iand, 1) := by decide +kernel
theorem dX10_candles_43 : decode cX10_candles 43 = .ok (.ifCond .ne 5, 3) := by decide +kernel
theorem dX10_candles_46 : decode cX10_candles 46 = .ok (.iconst 0, 1) := by decide +kernel
theorem dX10_candles_47 : decode cX10_candles 47 = .ok (.ireturn, 1) := by decide +kernel
theorem dX10_candles_48 : decode cX10_candles 48 = .ok (.iconst 0, 1) := by decide +kernel
theorem dX10_candles_49 : decode cX10_candles 49 = .ok (.istore 4, 2) := by decide +kernel
theorem dX10_candles_51 : decode cX10_candles 51 = .ok (.iload 4, 2) := by decide +kernel
theorem dX10_candles_53 : decode cX10_candles 53 = .ok (.sipush 300, 3) := by decide +kernel
theorem dX10_candles_56 : decode cX10_candles 56 = .ok (.if_icmp .ge 22, 3) := by decide +kernel
theorem dX10_candles_59 : decode cX10_candles 59 = .ok (.aload_n 0, 1) := by decide +kernel
theorem dX10_candles_60 : decode cX10_candles 60 = .ok (.iload 4, 2) := by decide +kernel
theorem dX10_candles_62 : decode cX10_candles 62 = .ok (.iconst 1, 1) := by decide +kernel
theorem dX10_candles_63 : decode cX10_candles 63 = .ok (.iadd, 1) := by decide +kernel
theorem dX10_candles_64 : decode cX10_candles 64 = .ok (.iload_n 2, 1) := by decide +kernel
theorem dX10_candles_65 : decode cX10_candles 65 = .ok (.invokevirtual 339, 3) := by decide +kernel
theorem dX10_candles_68 : decode cX10_candles 68 = .ok (.iload_n 3, 1) := by decide +kernel
theorem dX10_candles_69 : decode cX10_candles 69 = .ok (.if_icmp .gt 9, 3) := by decide +kernel
theorem dX10_candles_72 : decode cX10_candles 72 = .ok (.iinc 4 1, 3) := by decide +kernel
theorem dX10_candles_75 : decode cX10_candles 75 = .ok (.goto (-24), 3) := by decide +kernel
theorem dX10_candles_78 : decode cX10_candles 78 = .ok (.aload_n 0, 1) := by decide +kernel
theorem dX10_candles_79 : decode cX10_candles 79 = .ok (.getfield 65, 3) := by decide +kernel
theorem dX10_candles_82 : decode cX10_candles 82 = .ok (.getfield 157, 3) := by decide +kernel
theorem dX10_candles_85 : decode cX10_candles 85 = .ok (.iload_n 1, 1) := by decide +kernel
theorem dX10_candles_86 : decode cX10_candles 86 = .ok (.invokevirtual 254, 3) := by decide +kernel
theorem dX10_candles_89 : decode cX10_candles 89 = .ok (.iload 4, 2) := by decide +kernel
theorem dX10_candles_91 : decode cX10_candles 91 = .ok (.invokestatic 342, 3) := by decide +kernel
theorem dX10_candles_94 : decode cX10_candles 94 = .ok (.ireturn, 1) := by decide +kernel
theorem dX10_richest_0 : decode cX10_richest 0 = .ok (.aload_n 0, 1) := by decide +kernel
theorem dX10_richest_1 : decode cX10_richest 1 = .ok (.iload_n 1, 1) := by decide +kernel
theorem dX10_richest_2 : decode cX10_richest 2 = .ok (.iconst 0, 1) := by decide +kernel
theorem dX10_richest_3 : decode cX10_richest 3 = .ok (.iconst 1, 1) := by decide +kernel
theorem dX10_richest_4 : decode cX10_richest 4 = .ok (.invokevirtual 266, 3) := by decide +kernel
theorem dX10_richest_7 : decode cX10_richest 7 = .ok (.iconst (-1), 1) := by decide +kernel
theorem dX10_richest_8 : decode cX10_richest 8 = .ok (.istore_n 2, 1) := by decide +kernel
theorem dX10_richest_9 : decode cX10_richest 9 = .ok (.iconst (-1), 1) := by decide +kernel
theorem dX10_richest_10 : decode cX10_richest 10 = .ok (.istore_n 3, 1) := by decide +kernel
theorem dX10_richest_11 : decode cX10_richest 11 = .ok (.iconst 0, 1) := by decide +kernel
theorem dX10_richest_12 : decode cX10_richest 12 = .ok (.istore 4, 2) := by decide +kernel
theorem dX10_richest_14 : decode cX10_richest 14 = .ok (.iload 4, 2) := by decide +kernel
theorem dX10_richest_16 : decode cX10_richest 16 = .ok (.aload_n 0, 1) := by decide +kernel
theorem dX10_richest_17 : decode cX10_richest 17 = .ok (.getfield 19, 3) := by decide +kernel
theorem dX10_richest_20 : decode cX10_richest 20 = .ok (.getfield 141, 3) := by decide +kernel
theorem dX10_richest_23 : decode cX10_richest 23 = .ok (.if_icmp .ge 41, 3) := by decide +kernel
theorem dX10_richest_26 : decode cX10_richest 26 = .ok (.aload_n 0, 1) := by decide +kernel
theorem dX10_richest_27 : decode cX10_richest 27 = .ok (.getfield 65, 3) := by decide +kernel
theorem dX10_richest_30 : decode cX10_richest 30 = .ok (.getfield 157, 3) := by decide +kernel
theorem dX10_richest_33 : decode cX10_richest 33 = .ok (.iload 4, 2) := by decide +kernel
theorem dX10_richest_35 : decode cX10_richest 35 = .ok (.invokevirtual 229, 3) := by decide +kernel
theorem dX10_richest_38 : decode cX10_richest 38 = .ok (.iload_n 3, 1) := by decide +kernel
theorem dX10_richest_39 : decode cX10_richest 39 = .ok (.if_icmp .le 19, 3) := by decide +kernel
theorem dX10_richest_42 : decode cX10_richest 42 = .ok (.iload 4, 2) := by decide +kernel
theorem dX10_richest_44 : decode cX10_richest 44 = .ok (.istore_n 2, 1) := by decide +kernel
theorem dX10_richest_45 : decode cX10_richest 45 = .ok (.aload_n 0, 1) := by decide +kernel
theorem dX10_richest_46 : decode cX10_richest 46 = .ok (.getfield 65, 3) := by decide +kernel
theorem dX10_richest_49 : decode cX10_richest 49 = .ok (.getfield 157, 3) := by decide +kernel
theorem dX10_richest_52 : decode cX10_richest 52 = .ok (.iload 4, 2) := by decide +kernel
theorem dX10_richest_54 : decode cX10_richest 54 = .ok (.invokevirtual 229, 3) := by decide +kernel
theorem dX10_richest_57 : decode cX10_richest 57 = .ok (.istore_n 3, 1) := by decide +kernel
theorem dX10_richest_58 : decode cX10_richest 58 = .ok (.iinc 4 1, 3) := by decide +kernel
theorem dX10_richest_61 : decode cX10_richest 61 = .ok (.goto (-47), 3) := by decide +kernel
theorem dX10_richest_64 : decode cX10_richest 64 = .ok (.iload_n 1, 1) := by decide +kernel
theorem dX10_richest_65 : decode cX10_richest 65 = .ok (.ifCond .ne 7, 3) := by decide +kernel
theorem dX10_richest_68 : decode cX10_richest 68 = .ok (.iload_n 2, 1) := by decide +kernel
theorem dX10_richest_69 : decode cX10_richest 69 = .ok (.goto 4, 3) := by decide +kernel
theorem dX10_richest_72 : decode cX10_richest 72 = .ok (.iload_n 3, 1) := by decide +kernel
theorem dX10_richest_73 : decode cX10_richest 73 = .ok (.ireturn, 1) := by decide +kernel
theorem dX10_next_0 : decode cX10_next 0 = .ok (.aload_n 0, 1) := by decide +kernel
theorem dX10_next_1 : decode cX10_next 1 = .ok (.iload_n 1, 1) := by decide +kernel
theorem dX10_next_2 : decode cX10_next 2 = .ok (.iconst 0, 1) := by decide +kernel
theorem dX10_next_3 : decode cX10_next 3 = .ok (.iconst 1, 1) := by decide +kernel
theorem dX10_next_4 : decode cX10_next 4 = .ok (.invokevirtual 266, 3) := by decide +kernel
theorem dX10_next_7 : decode cX10_next 7 = .ok (.aload_n 0, 1) := by decide +kernel
theorem dX10_next_8 : decode cX10_next 8 = .ok (.getfield 65, 3) := by decide +kernel
theorem dX10_next_11 : decode cX10_next 11 = .ok (.getfield 157, 3) := by decide +kernel
theorem dX10_next_14 : decode cX10_next 14 = .ok (.astore_n 2, 1) := by decide +kernel
theorem dX10_next_15 : decode cX10_next 15 = .ok (.iconst (-1), 1) := by decide +kernel
theorem dX10_next_16 : decode cX10_next 16 = .ok (.istore_n 3, 1) := by decide +kernel
theorem dX10_next_17 : decode cX10_next 17 = .ok (.iconst (-1), 1) := by decide +kernel
theorem dX10_next_18 : decode cX10_next 18 = .ok (.istore 4, 2) := by decide +kernel
theorem dX10_next_20 : decode cX10_next 20 = .ok (.iconst 0, 1) := by decide +kernel
theorem dX10_next_21 : decode cX10_next 21 = .ok (.istore 5, 2) := by decide +kernel
theorem dX10_next_23 : decode cX10_next 23 = .ok (.iload 5, 2) := by decide +kernel
theorem dX10_next_25 : decode cX10_next 25 = .ok (.aload_n 2, 1) := by decide +kernel
theorem dX10_next_26 : decode cX10_next 26 = .ok (.invokevirtual 192, 3) := by decide +kernel
theorem dX10_next_29 : decode cX10_next 29 = .ok (.if_icmp .ge 51, 3) := by decide +kernel
theorem dX10_next_32 : decode cX10_next 32 = .ok (.aload_n 2, 1) := by decide +kernel
theorem dX10_next_33 : decode cX10_next 33 = .ok (.iload 5, 2) := by decide +kernel
theorem dX10_next_35 : decode cX10_next 35 = .ok (.iconst 4, 1) := by decide +kernel
theorem dX10_next_36 : decode cX10_next 36 = .ok (.invokevirtual 273, 3) := by decide +kernel
theorem dX10_next_39 : decode cX10_next 39 = .ok (.aload_n 2, 1) := by decide +kernel
theorem dX10_next_40 : decode cX10_next 40 = .ok (.invokevirtual 195, 3) := by decide +kernel
theorem dX10_next_43 : decode cX10_next 43 = .ok (.isub, 1) := by decide +kernel
theorem dX10_next_44 : decode cX10_next 44 = .ok (.istore 6, 2) := by decide +kernel
theorem dX10_next_46 : decode cX10_next 46 = .ok (.aload_n 2, 1) := by decide +kernel
theorem dX10_next_47 : decode cX10_next 47 = .ok (.iload 5, 2) := by decide +kernel
theorem dX10_next_49 : decode cX10_next 49 = .ok (.invokevirtual 347, 3) := by decide +kernel
theorem dX10_next_52 : decode cX10_next 52 = .ok (.ifCond .ne 22, 3) := by decide +kernel
theorem dX10_next_55 : decode cX10_next 55 = .ok (.iload_n 3, 1) := by decide +kernel
theorem dX10_next_56 : decode cX10_next 56 = .ok (.iconst (-1), 1) := by decide +kernel
theorem dX10_next_57 : decode cX10_next 57 = .ok (.if_icmp .eq 10, 3) := by decide +kernel
theorem dX10_next_60 : decode cX10_next 60 = .ok (.iload 6, 2) := by decide +kernel
theorem dX10_next_62 : decode cX10_next 62 = .ok (.iload 4, 2) := by decide +kernel
theorem dX10_next_64 : decode cX10_next 64 = .ok (.if_icmp .ge 10, 3) := by decide +kernel
theorem dX10_next_67 : decode cX10_next 67 = .ok (.iload 5, 2) := by decide +kernel
theorem dX10_next_69 : decode cX10_next 69 = .ok (.istore_n 3, 1) := by decide +kernel
theorem dX10_next_70 : decode cX10_next 70 = .ok (.iload 6, 2) := by decide +kernel
theorem dX10_next_72 : decode cX10_next 72 = .ok (.istore 4, 2) := by decide +kernel
theorem dX10_next_74 : decode cX10_next 74 = .ok (.iinc 5 1, 3) := by decide +kernel
theorem dX10_next_77 : decode cX10_next 77 = .ok (.goto (-54), 3) := by decide +kernel
theorem dX10_next_80 : decode cX10_next 80 = .ok (.iload_n 1, 1) := by decide +kernel
theorem dX10_next_81 : decode cX10_next 81 = .ok (.ifCond .ne 7, 3) := by decide +kernel
theorem dX10_next_84 : decode cX10_next 84 = .ok (.iload_n 3, 1) := by decide +kernel
theorem dX10_next_85 : decode cX10_next 85 = .ok (.goto 5, 3) := by decide +kernel
theorem dX10_next_88 : decode cX10_next 88 = .ok (.iload 4, 2) := by decide +kernel
theorem dX10_next_90 : decode cX10_next 90 = .ok (.ireturn, 1) := by decide +kernel
theorem dX10_shut_0 : decode cX10_shut 0 = .ok (.iconst 0, 1) := by decide +kernel
theorem dX10_shut_1 : decode cX10_shut 1 = .ok (.istore_n 1, 1) := by decide +kernel
theorem dX10_shut_2 : decode cX10_shut 2 = .ok (.iconst 0, 1) := by decide +kernel
theorem dX10_shut_3 : decode cX10_shut 3 = .ok (.istore_n 2, 1) := by decide +kernel
theorem dX10_shut_4 : decode cX10_shut 4 = .ok (.iload_n 2, 1) := by decide +kernel
theorem dX10_shut_5 : decode cX10_shut 5 = .ok (.aload_n 0, 1) := by decide +kernel
theorem dX10_shut_6 : decode cX10_shut 6 = .ok (.getfield 19, 3) := by decide +kernel
theorem dX10_shut_9 : decode cX10_shut 9 = .ok (.getfield 173, 3) := by decide +kernel
theorem dX10_shut_12 : decode cX10_shut 12 = .ok (.if_icmp .ge 23, 3) := by decide +kernel
theorem dX10_shut_15 : decode cX10_shut 15 = .ok (.aload_n 0, 1) := by decide +kernel
theorem dX10_shut_16 : decode cX10_shut 16 = .ok (.iload_n 2, 1) := by decide +kernel
theorem dX10_shut_17 : decode cX10_shut 17 = .ok (.invokevirtual 350, 3) := by decide +kernel
theorem dX10_shut_20 : decode cX10_shut 20 = .ok (.ifCond .ne 9, 3) := by decide +kernel
theorem dX10_shut_23 : decode cX10_shut 23 = .ok (.iload_n 1, 1) := by decide +kernel
theorem dX10_shut_24 : decode cX10_shut 24 = .ok (.iconst 1, 1) := by decide +kernel
theorem dX10_shut_25 : decode cX10_shut 25 = .ok (.iload_n 2, 1) := by decide +kernel
theorem dX10_shut_26 : decode cX10_shut 26 = .ok (.ishl, 1) := by decide +kernel
theorem dX10_shut_27 : decode cX10_shut 27 = .ok (.ior, 1) := by decide +kernel
theorem dX10_shut_28 : decode cX10_shut 28 = .ok (.istore_n 1, 1) := by decide +kernel
theorem dX10_shut_29 : decode cX10_shut 29 = .ok (.iinc 2 1, 3) := by decide +kernel
theorem dX10_shut_32 : decode cX10_shut 32 = .ok (.goto (-28), 3) := by decide +kernel
theorem dX10_shut_35 : decode cX10_shut 35 = .ok (.iload_n 1, 1) := by decide +kernel
theorem dX10_shut_36 : decode cX10_shut 36 = .ok (.ireturn, 1) := by decide +kernel
theorem dX10_kind_0 : decode cX10_kind 0 = .ok (.aload_n 0, 1) := by decide +kernel
theorem dX10_kind_1 : decode cX10_kind 1 = .ok (.iload_n 1, 1) := by decide +kernel
theorem dX10_kind_2 : decode cX10_kind 2 = .ok (.iconst 0, 1) := by decide +kernel
theorem dX10_kind_3 : decode cX10_kind 3 = .ok (.iconst 5, 1) := by decide +kernel
theorem dX10_kind_4 : decode cX10_kind 4 = .ok (.invokevirtual 266, 3) := by decide +kernel
theorem dX10_kind_7 : decode cX10_kind 7 = .ok (.aload_n 0, 1) := by decide +kernel
theorem dX10_kind_8 : decode cX10_kind 8 = .ok (.iload_n 2, 1) := by decide +kernel
theorem dX10_kind_9 : decode cX10_kind 9 = .ok (.iconst 0, 1) := by decide +kernel
theorem dX10_kind_10 : decode cX10_kind 10 = .ok (.iconst 1, 1) := by decide +kernel
theorem dX10_kind_11 : decode cX10_kind 11 = .ok (.invokevirtual 266, 3) := by decide +kernel
theorem dX10_kind_14 : decode cX10_kind 14 = .ok (.iconst 0, 1) := by decide +kernel
theorem dX10_kind_15 : decode cX10_kind 15 = .ok (.istore_n 3, 1) := by decide +kernel
theorem dX10_kind_16 : decode cX10_kind 16 = .ok (.iconst 0, 1) := by decide +kernel
theorem dX10_kind_17 : decode cX10_kind 17 = .ok (.istore 4, 2) := by decide +kernel
theorem dX10_kind_19 : decode cX10_kind 19 = .ok (.iload 4, 2) := by decide +kernel
theorem dX10_kind_21 : decode cX10_kind 21 = .ok (.aload_n 0, 1) := by decide +kernel
theorem dX10_kind_22 : decode cX10_kind 22 = .ok (.getfield 19, 3) := by decide +kernel
theorem dX10_kind_25 : decode cX10_kind 25 = .ok (.getfield 141, 3) := by decide +kernel
theorem dX10_kind_28 : decode cX10_kind 28 = .ok (.if_icmp .ge 57, 3) := by decide +kernel
theorem dX10_kind_31 : decode cX10_kind 31 = .ok (.aload_n 0, 1) := by decide +kernel
theorem dX10_kind_32 : decode cX10_kind 32 = .ok (.getfield 19, 3) := by decide +kernel
theorem dX10_kind_35 : decode cX10_kind 35 = .ok (.iload 4, 2) := by decide +kernel
theorem dX10_kind_37 : decode cX10_kind 37 = .ok (.invokevirtual 225, 3) := by decide +kernel
theorem dX10_kind_40 : decode cX10_kind 40 = .ok (.iload_n 1, 1) := by decide +kernel
theorem dX10_kind_41 : decode cX10_kind 41 = .ok (.if_icmp .ne 38, 3) := by decide +kernel
theorem dX10_kind_44 : decode cX10_kind 44 = .ok (.iload_n 3, 1) := by decide +kernel
theorem dX10_kind_45 : decode cX10_kind 45 = .ok (.iload_n 2, 1) := by decide +kernel
theorem dX10_kind_46 : decode cX10_kind 46 = .ok (.ifCond .ne 18, 3) := by decide +kernel
theorem dX10_kind_49 : decode cX10_kind 49 = .ok (.aload_n 0, 1) := by decide +kernel
theorem dX10_kind_50 : decode cX10_kind 50 = .ok (.getfield 65, 3) := by decide +kernel
theorem dX10_kind_53 : decode cX10_kind 53 = .ok (.getfield 157, 3) := by decide +kernel
theorem dX10_kind_56 : decode cX10_kind 56 = .ok (.iload 4, 2) := by decide +kernel
theorem dX10_kind_58 : decode cX10_kind 58 = .ok (.invokevirtual 229, 3) := by decide +kernel
theorem dX10_kind_61 : decode cX10_kind 61 = .ok (.goto 16, 3) := by decide +kernel
theorem dX10_kind_64 : decode cX10_kind 64 = .ok (.aload_n 0, 1) := by decide +kernel
theorem dX10_kind_65 : decode cX10_kind 65 = .ok (.getfield 65, 3) := by decide +kernel
theorem dX10_kind_68 : decode cX10_kind 68 = .ok (.getfield 157, 3) := by decide +kernel
theorem dX10_kind_71 : decode cX10_kind 71 = .ok (.iconst 1, 1) := by decide +kernel
theorem dX10_kind_72 : decode cX10_kind 72 = .ok (.iload 4, 2) := by decide +kernel
theorem dX10_kind_74 : decode cX10_kind 74 = .ok (.invokevirtual 257, 3) := by decide +kernel
theorem dX10_kind_77 : decode cX10_kind 77 = .ok (.iadd, 1) := by decide +kernel
theorem dX10_kind_78 : decode cX10_kind 78 = .ok (.istore_n 3, 1) := by decide +kernel
theorem dX10_kind_79 : decode cX10_kind 79 = .ok (.iinc 4 1, 3) := by decide +kernel
theorem dX10_kind_82 : decode cX10_kind 82 = .ok (.goto (-63), 3) := by decide +kernel
theorem dX10_kind_85 : decode cX10_kind 85 = .ok (.iload_n 3, 1) := by decide +kernel
theorem dX10_kind_86 : decode cX10_kind 86 = .ok (.ireturn, 1) := by decide +kernel
theorem dX10_worth_0 : decode cX10_worth 0 = .ok (.aload_n 0, 1) := by decide +kernel
theorem dX10_worth_1 : decode cX10_worth 1 = .ok (.iload_n 1, 1) := by decide +kernel
theorem dX10_worth_2 : decode cX10_worth 2 = .ok (.invokevirtual 245, 3) := by decide +kernel
theorem dX10_worth_5 : decode cX10_worth 5 = .ok (.aload_n 0, 1) := by decide +kernel
theorem dX10_worth_6 : decode cX10_worth 6 = .ok (.getfield 65, 3) := by decide +kernel
theorem dX10_worth_9 : decode cX10_worth 9 = .ok (.getfield 157, 3) := by decide +kernel
theorem dX10_worth_12 : decode cX10_worth 12 = .ok (.iload_n 1, 1) := by decide +kernel
theorem dX10_worth_13 : decode cX10_worth 13 = .ok (.invokevirtual 254, 3) := by decide +kernel
theorem dX10_worth_16 : decode cX10_worth 16 = .ok (.aload_n 0, 1) := by decide +kernel
theorem dX10_worth_17 : decode cX10_worth 17 = .ok (.getfield 58, 3) := by decide +kernel
theorem dX10_worth_20 : decode cX10_worth 20 = .ok (.aload_n 0, 1) := by decide +kernel
theorem dX10_worth_21 : decode cX10_worth 21 = .ok (.getfield 65, 3) := by decide +kernel
theorem dX10_worth_24 : decode cX10_worth 24 = .ok (.getfield 157, 3) := by decide +kernel
theorem dX10_worth_27 : decode cX10_worth 27 = .ok (.iload_n 1, 1) := by decide +kernel
theorem dX10_worth_28 : decode cX10_worth 28 = .ok (.invokevirtual 205, 3) := by decide +kernel
theorem dX10_worth_31 : decode cX10_worth 31 = .ok (.isub, 1) := by decide +kernel
theorem dX10_worth_32 : decode cX10_worth 32 = .ok (.ireturn, 1) := by decide +kernel
theorem dX10_broke_0 : decode cX10_broke 0 = .ok (.aload_n 0, 1) := by decide +kernel
theorem dX10_broke_1 : decode cX10_broke 1 = .ok (.iload_n 1, 1) := by decide +kernel
theorem dX10_broke_2 : decode cX10_broke 2 = .ok (.invokevirtual 245, 3) := by decide +kernel
theorem dX10_broke_5 : decode cX10_broke 5 = .ok (.aload_n 0, 1) := by decide +kernel
theorem dX10_broke_6 : decode cX10_broke 6 = .ok (.getfield 76, 3) := by decide +kernel
theorem dX10_broke_9 : decode cX10_broke 9 = .ok (.aload_n 0, 1) := by decide +kernel
theorem dX10_broke_10 : decode cX10_broke 10 = .ok (.getfield 65, 3) := by decide +kernel
theorem dX10_broke_13 : decode cX10_broke 13 = .ok (.getfield 157, 3) := by decide +kernel
theorem dX10_broke_16 : decode cX10_broke 16 = .ok (.invokevirtual 289, 3) := by decide +kernel
theorem dX10_broke_19 : decode cX10_broke 19 = .ok (.iconst 0, 1) := by decide +kernel
theorem dX10_broke_20 : decode cX10_broke 20 = .ok (.istore_n 2, 1) := by decide +kernel
theorem dX10_broke_21 : decode cX10_broke 21 = .ok (.iload_n 2, 1) := by decide +kernel
theorem dX10_broke_22 : decode cX10_broke 22 = .ok (.bipush 99, 2) := by decide +kernel
theorem dX10_broke_24 : decode cX10_broke 24 = .ok (.if_icmp .gt 45, 3) := by decide +kernel
theorem dX10_broke_27 : decode cX10_broke 27 = .ok (.aload_n 0, 1) := by decide +kernel
theorem dX10_broke_28 : decode cX10_broke 28 = .ok (.getfield 58, 3) := by decide +kernel
theorem dX10_broke_31 : decode cX10_broke 31 = .ok (.aload_n 0, 1) := by decide +kernel
theorem dX10_broke_32 : decode cX10_broke 32 = .ok (.getfield 76, 3) := by decide +kernel
theorem dX10_broke_35 : decode cX10_broke 35 = .ok (.iload_n 1, 1) := by decide +kernel
theorem dX10_broke_36 : decode cX10_broke 36 = .ok (.invokevirtual 205, 3) := by decide +kernel
theorem dX10_broke_39 : decode cX10_broke 39 = .ok (.aload_n 0, 1) := by decide +kernel
theorem dX10_broke_40 : decode cX10_broke 40 = .ok (.getfield 76, 3) := by decide +kernel
theorem dX10_broke_43 : decode cX10_broke 43 = .ok (.iload_n 1, 1) := by decide +kernel
theorem dX10_broke_44 : decode cX10_broke 44 = .ok (.invokevirtual 254, 3) := by decide +kernel
theorem dX10_broke_47 : decode cX10_broke 47 = .ok (.if_icmp .le 5, 3) := by decide +kernel
theorem dX10_broke_50 : decode cX10_broke 50 = .ok (.iload_n 2, 1) := by decide +kernel
theorem dX10_broke_51 : decode cX10_broke 51 = .ok (.ireturn, 1) := by decide +kernel
theorem dX10_broke_52 : decode cX10_broke 52 = .ok (.aload_n 0, 1) := by decide +kernel
theorem dX10_broke_53 : decode cX10_broke 53 = .ok (.getfield 58, 3) := by decide +kernel
theorem dX10_broke_56 : decode cX10_broke 56 = .ok (.aload_n 0, 1) := by decide +kernel
theorem dX10_broke_57 : decode cX10_broke 57 = .ok (.getfield 76, 3) := by decide +kernel
theorem dX10_broke_60 : decode cX10_broke 60 = .ok (.invokevirtual 292, 3) := by decide +kernel
theorem dX10_broke_63 : decode cX10_broke 63 = .ok (.iinc 2 1, 3) := by decide +kernel
theorem dX10_broke_66 : decode cX10_broke 66 = .ok (.goto (-45), 3) := by decide +kernel
theorem dX10_broke_69 : decode cX10_broke 69 = .ok (.iconst (-1), 1) := by decide +kernel
theorem dX10_broke_70 : decode cX10_broke 70 = .ok (.ireturn, 1) := by decide +kernel
theorem dX10_late_0 : decode cX10_late 0 = .ok (.aload_n 0, 1) := by decide +kernel
theorem dX10_late_1 : decode cX10_late 1 = .ok (.iload_n 1, 1) := by decide +kernel
theorem dX10_late_2 : decode cX10_late 2 = .ok (.invokevirtual 245, 3) := by decide +kernel
theorem dX10_late_5 : decode cX10_late 5 = .ok (.aload_n 0, 1) := by decide +kernel
theorem dX10_late_6 : decode cX10_late 6 = .ok (.iload_n 2, 1) := by decide +kernel
theorem dX10_late_7 : decode cX10_late 7 = .ok (.iconst 0, 1) := by decide +kernel
theorem dX10_late_8 : decode cX10_late 8 = .ok (.iconst 1, 1) := by decide +kernel
theorem dX10_late_9 : decode cX10_late 9 = .ok (.invokevirtual 266, 3) := by decide +kernel
theorem dX10_late_12 : decode cX10_late 12 = .ok (.aload_n 0, 1) := by decide +kernel
theorem dX10_late_13 : decode cX10_late 13 = .ok (.getfield 65, 3) := by decide +kernel
theorem dX10_late_16 : decode cX10_late 16 = .ok (.getfield 157, 3) := by decide +kernel
theorem dX10_late_19 : decode cX10_late 19 = .ok (.iconst 0, 1) := by decide +kernel
theorem dX10_late_20 : decode cX10_late 20 = .ok (.iload_n 1, 1) := by decide +kernel
theorem dX10_late_21 : decode cX10_late 21 = .ok (.invokevirtual 238, 3) := by decide +kernel
theorem dX10_late_24 : decode cX10_late 24 = .ok (.istore_n 3, 1) := by decide +kernel
theorem dX10_late_25 : decode cX10_late 25 = .ok (.aload_n 0, 1) := by decide +kernel
theorem dX10_late_26 : decode cX10_late 26 = .ok (.getfield 65, 3) := by decide +kernel
theorem dX10_late_29 : decode cX10_late 29 = .ok (.getfield 157, 3) := by decide +kernel
theorem dX10_late_32 : decode cX10_late 32 = .ok (.invokevirtual 209, 3) := by decide +kernel
theorem dX10_late_35 : decode cX10_late 35 = .ok (.istore 4, 2) := by decide +kernel
theorem dX10_late_37 : decode cX10_late 37 = .ok (.iload_n 2, 1) := by decide +kernel
theorem dX10_late_38 : decode cX10_late 38 = .ok (.ifCond .ne 10, 3) := by decide +kernel
theorem dX10_late_41 : decode cX10_late 41 = .ok (.iload_n 3, 1) := by decide +kernel
theorem dX10_late_42 : decode cX10_late 42 = .ok (.iload 4, 2) := by decide +kernel
theorem dX10_late_44 : decode cX10_late 44 = .ok (.iand, 1) := by decide +kernel
theorem dX10_late_45 : decode cX10_late 45 = .ok (.goto 9, 3) := by decide +kernel
theorem dX10_late_48 : decode cX10_late 48 = .ok (.iload_n 3, 1) := by decide +kernel
theorem dX10_late_49 : decode cX10_late 49 = .ok (.iload 4, 2) := by decide +kernel
theorem dX10_late_51 : decode cX10_late 51 = .ok (.iconst (-1), 1) := by decide +kernel
theorem dX10_late_52 : decode cX10_late 52 = .ok (.ixor, 1) := by decide +kernel
theorem dX10_late_53 : decode cX10_late 53 = .ok (.iand, 1) := by decide +kernel
theorem dX10_late_54 : decode cX10_late 54 = .ok (.ireturn, 1) := by decide +kernel
theorem dX10_trust_0 : decode cX10_trust 0 = .ok (.aload_n 0, 1) := by decide +kernel
theorem dX10_trust_1 : decode cX10_trust 1 = .ok (.iload_n 1, 1) := by decide +kernel
theorem dX10_trust_2 : decode cX10_trust 2 = .ok (.invokevirtual 222, 3) := by decide +kernel
theorem dX10_trust_5 : decode cX10_trust 5 = .ok (.aload_n 0, 1) := by decide +kernel
theorem dX10_trust_6 : decode cX10_trust 6 = .ok (.iload_n 2, 1) := by decide +kernel
theorem dX10_trust_7 : decode cX10_trust 7 = .ok (.iconst 1, 1) := by decide +kernel
theorem dX10_trust_8 : decode cX10_trust 8 = .ok (.bipush 60, 2) := by decide +kernel
theorem dX10_trust_10 : decode cX10_trust 10 = .ok (.invokevirtual 266, 3) := by decide +kernel
theorem dX10_trust_13 : decode cX10_trust 13 = .ok (.iconst 0, 1) := by decide +kernel
theorem dX10_trust_14 : decode cX10_trust 14 = .ok (.istore_n 3, 1) := by decide +kernel
theorem dX10_trust_15 : decode cX10_trust 15 = .ok (.iconst 0, 1) := by decide +kernel
theorem dX10_trust_16 : decode cX10_trust 16 = .ok (.istore 4, 2) := by decide +kernel
theorem dX10_trust_18 : decode cX10_trust 18 = .ok (.iload 4, 2) := by decide +kernel
theorem dX10_trust_20 : decode cX10_trust 20 = .ok (.aload_n 0, 1) := by decide +kernel
theorem dX10_trust_21 : decode cX10_trust 21 = .ok (.getfield 19, 3) := by decide +kernel
theorem dX10_trust_24 : decode cX10_trust 24 = .ok (.getfield 173, 3) := by decide +kernel
theorem dX10_trust_27 : decode cX10_trust 27 = .ok (.if_icmp .ge 37, 3) := by decide +kernel
theorem dX10_trust_30 : decode cX10_trust 30 = .ok (.aload_n 0, 1) := by decide +kernel
theorem dX10_trust_31 : decode cX10_trust 31 = .ok (.getfield 58, 3) := by decide +kernel
theorem dX10_trust_34 : decode cX10_trust 34 = .ok (.aload_n 0, 1) := by decide +kernel
theorem dX10_trust_35 : decode cX10_trust 35 = .ok (.getfield 65, 3) := by decide +kernel
theorem dX10_trust_38 : decode cX10_trust 38 = .ok (.getfield 157, 3) := by decide +kernel
theorem dX10_trust_41 : decode cX10_trust 41 = .ok (.iload 4, 2) := by decide +kernel
theorem dX10_trust_43 : decode cX10_trust 43 = .ok (.iload_n 1, 1) := by decide +kernel
theorem dX10_trust_44 : decode cX10_trust 44 = .ok (.iload_n 2, 1) := by decide +kernel
theorem dX10_trust_45 : decode cX10_trust 45 = .ok (.invokevirtual 285, 3) := by decide +kernel
theorem dX10_trust_48 : decode cX10_trust 48 = .ok (.ifCond .eq 10, 3) := by decide +kernel
theorem dX10_trust_51 : decode cX10_trust 51 = .ok (.iload_n 3, 1) := by decide +kernel
theorem dX10_trust_52 : decode cX10_trust 52 = .ok (.iconst 1, 1) := by decide +kernel
theorem dX10_trust_53 : decode cX10_trust 53 = .ok (.iload 4, 2) := by decide +kernel
theorem dX10_trust_55 : decode cX10_trust 55 = .ok (.ishl, 1) := by decide +kernel
theorem dX10_trust_56 : decode cX10_trust 56 = .ok (.ior, 1) := by decide +kernel
theorem dX10_trust_57 : decode cX10_trust 57 = .ok (.istore_n 3, 1) := by decide +kernel
theorem dX10_trust_58 : decode cX10_trust 58 = .ok (.iinc 4 1, 3) := by decide +kernel
theorem dX10_trust_61 : decode cX10_trust 61 = .ok (.goto (-43), 3) := by decide +kernel
theorem dX10_trust_64 : decode cX10_trust 64 = .ok (.iload_n 3, 1) := by decide +kernel
theorem dX10_trust_65 : decode cX10_trust 65 = .ok (.ireturn, 1) := by decide +kernel
theorem dX10_deepest_0 : decode cX10_deepest 0 = .ok (.aload_n 0, 1) := by decide +kernel
theorem dX10_deepest_1 : decode cX10_deepest 1 = .ok (.iload_n 1, 1) := by decide +kernel
theorem dX10_deepest_2 : decode cX10_deepest 2 = .ok (.iconst 0, 1) := by decide +kernel
theorem dX10_deepest_3 : decode cX10_deepest 3 = .ok (.iconst 1, 1) := by decide +kernel
theorem dX10_deepest_4 : decode cX10_deepest 4 = .ok (.invokevirtual 266, 3) := by decide +kernel
theorem dX10_deepest_7 : decode cX10_deepest 7 = .ok (.iconst (-1), 1) := by decide +kernel
theorem dX10_deepest_8 : decode cX10_deepest 8 = .ok (.istore_n 2, 1) := by decide +kernel
theorem dX10_deepest_9 : decode cX10_deepest 9 = .ok (.iconst (-1), 1) := by decide +kernel
theorem dX10_deepest_10 : decode cX10_deepest 10 = .ok (.istore_n 3, 1) := by decide +kernel
theorem dX10_deepest_11 : decode cX10_deepest 11 = .ok (.iconst 0, 1) := by decide +kernel
theorem dX10_deepest_12 : decode cX10_deepest 12 = .ok (.istore 4, 2) := by decide +kernel
theorem dX10_deepest_14 : decode cX10_deepest 14 = .ok (.iload 4, 2) := by decide +kernel
theorem dX10_deepest_16 : decode cX10_deepest 16 = .ok (.aload_n 0, 1) := by decide +kernel
theorem dX10_deepest_17 : decode cX10_deepest 17 = .ok (.getfield 65, 3) := by decide +kernel
theorem dX10_deepest_20 : decode cX10_deepest 20 = .ok (.getfield 157, 3) := by decide +kernel
theorem dX10_deepest_23 : decode cX10_deepest 23 = .ok (.invokevirtual 192, 3) := by decide +kernel
theorem dX10_deepest_26 : decode cX10_deepest 26 = .ok (.if_icmp .ge 39, 3) := by decide +kernel
theorem dX10_deepest_29 : decode cX10_deepest 29 = .ok (.aload_n 0, 1) := by decide +kernel
theorem dX10_deepest_30 : decode cX10_deepest 30 = .ok (.getfield 58, 3) := by decide +kernel
theorem dX10_deepest_33 : decode cX10_deepest 33 = .ok (.aload_n 0, 1) := by decide +kernel
theorem dX10_deepest_34 : decode cX10_deepest 34 = .ok (.getfield 65, 3) := by decide +kernel
theorem dX10_deepest_37 : decode cX10_deepest 37 = .ok (.getfield 157, 3) := by decide +kernel
theorem dX10_deepest_40 : decode cX10_deepest 40 = .ok (.iload 4, 2) := by decide +kernel
theorem dX10_deepest_42 : decode cX10_deepest 42 = .ok (.invokevirtual 270, 3) := by decide +kernel
theorem dX10_deepest_45 : decode cX10_deepest 45 = .ok (.istore 5, 2) := by decide +kernel
theorem dX10_deepest_47 : decode cX10_deepest 47 = .ok (.iload 5, 2) := by decide +kernel
theorem dX10_deepest_49 : decode cX10_deepest 49 = .ok (.iload_n 3, 1) := by decide +kernel
theorem dX10_deepest_50 : decode cX10_deepest 50 = .ok (.if_icmp .le 9, 3) := by decide +kernel
theorem dX10_deepest_53 : decode cX10_deepest 53 = .ok (.iload 4, 2) := by decide +kernel
theorem dX10_deepest_55 : decode cX10_deepest 55 = .ok (.istore_n 2, 1) := by decide +kernel
theorem dX10_deepest_56 : decode cX10_deepest 56 = .ok (.iload 5, 2) := by decide +kernel
theorem dX10_deepest_58 : decode cX10_deepest 58 = .ok (.istore_n 3, 1) := by decide +kernel
theorem dX10_deepest_59 : decode cX10_deepest 59 = .ok (.iinc 4 1, 3) := by decide +kernel
theorem dX10_deepest_62 : decode cX10_deepest 62 = .ok (.goto (-48), 3) := by decide +kernel
theorem dX10_deepest_65 : decode cX10_deepest 65 = .ok (.iload_n 1, 1) := by decide +kernel
theorem dX10_deepest_66 : decode cX10_deepest 66 = .ok (.ifCond .ne 7, 3) := by decide +kernel
theorem dX10_deepest_69 : decode cX10_deepest 69 = .ok (.iload_n 2, 1) := by decide +kernel
theorem dX10_deepest_70 : decode cX10_deepest 70 = .ok (.goto 4, 3) := by decide +kernel
theorem dX10_deepest_73 : decode cX10_deepest 73 = .ok (.iload_n 3, 1) := by decide +kernel
theorem dX10_deepest_74 : decode cX10_deepest 74 = .ok (.ireturn, 1) := by decide +kernel
theorem dX10_poorest_0 : decode cX10_poorest 0 = .ok (.aload_n 0, 1) := by decide +kernel
theorem dX10_poorest_1 : decode cX10_poorest 1 = .ok (.iload_n 1, 1) := by decide +kernel
theorem dX10_poorest_2 : decode cX10_poorest 2 = .ok (.iconst 0, 1) := by decide +kernel
theorem dX10_poorest_3 : decode cX10_poorest 3 = .ok (.iconst 1, 1) := by decide +kernel
theorem dX10_poorest_4 : decode cX10_poorest 4 = .ok (.invokevirtual 266, 3) := by decide +kernel
theorem dX10_poorest_7 : decode cX10_poorest 7 = .ok (.iconst (-1), 1) := by decide +kernel
theorem dX10_poorest_8 : decode cX10_poorest 8 = .ok (.istore_n 2, 1) := by decide +kernel
theorem dX10_poorest_9 : decode cX10_poorest 9 = .ok (.iconst (-1), 1) := by decide +kernel
theorem dX10_poorest_10 : decode cX10_poorest 10 = .ok (.istore_n 3, 1) := by decide +kernel
theorem dX10_poorest_11 : decode cX10_poorest 11 = .ok (.iconst 0, 1) := by decide +kernel
theorem dX10_poorest_12 : decode cX10_poorest 12 = .ok (.istore 4, 2) := by decide +kernel
theorem dX10_poorest_14 : decode cX10_poorest 14 = .ok (.iload 4, 2) := by decide +kernel
theorem dX10_poorest_16 : decode cX10_poorest 16 = .ok (.aload_n 0, 1) := by decide +kernel
theorem dX10_poorest_17 : decode cX10_poorest 17 = .ok (.getfield 19, 3) := by decide +kernel
theorem dX10_poorest_20 : decode cX10_poorest 20 = .ok (.getfield 173, 3) := by decide +kernel
theorem dX10_poorest_23 : decode cX10_poorest 23 = .ok (.if_icmp .ge 40, 3) := by decide +kernel
theorem dX10_poorest_26 : decode cX10_poorest 26 = .ok (.aload_n 0, 1) := by decide +kernel
theorem dX10_poorest_27 : decode cX10_poorest 27 = .ok (.getfield 65, 3) := by decide +kernel
theorem dX10_poorest_30 : decode cX10_poorest 30 = .ok (.getfield 157, 3) := by decide +kernel
theorem dX10_poorest_33 : decode cX10_poorest 33 = .ok (.iload 4, 2) := by decide +kernel
theorem dX10_poorest_35 : decode cX10_poorest 35 = .ok (.invokevirtual 254, 3) := by decide +kernel
theorem dX10_poorest_38 : decode cX10_poorest 38 = .ok (.istore 5, 2) := by decide +kernel
theorem dX10_poorest_40 : decode cX10_poorest 40 = .ok (.iload_n 2, 1) := by decide +kernel
theorem dX10_poorest_41 : decode cX10_poorest 41 = .ok (.iconst (-1), 1) := by decide +kernel
theorem dX10_poorest_42 : decode cX10_poorest 42 = .ok (.if_icmp .eq 9, 3) := by decide +kernel
theorem dX10_poorest_45 : decode cX10_poorest 45 = .ok (.iload 5, 2) := by decide +kernel
theorem dX10_poorest_47 : decode cX10_poorest 47 = .ok (.iload_n 3, 1) := by decide +kernel
theorem dX10_poorest_48 : decode cX10_poorest 48 = .ok (.if_icmp .ge 9, 3) := by decide +kernel
theorem dX10_poorest_51 : decode cX10_poorest 51 = .ok (.iload 4, 2) := by decide +kernel
theorem dX10_poorest_53 : decode cX10_poorest 53 = .ok (.istore_n 2, 1) := by decide +kernel
